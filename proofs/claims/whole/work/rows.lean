section
-- ===== PART A: goes FIRST, ahead of the names: the tables' words, and 'selects' of the private methods out of them =====
/-- a private method of a class that the tables say can be made, by its rows of tables_1 -/
def lw_okq (q : MethodName × Nat) : Prop := (q.1.cls ≠ "java/lang/invoke/MethodHandle" ∧ q.1.cls ≠ "java/lang/invoke/VarHandle") ∧ Cond.instantiable q.1.cls q.2 ∈ tables_1 ∧ Cond.privateMethod q.1 ∈ tables_1 ∧ Cond.instanceMethod q.1 ∈ tables_1
theorem lw_p0 : lw_okq (⟨"FiddleShares", "refuse", "(I)I"⟩, 11) := ⟨⟨by decide +kernel, by decide +kernel⟩, List.mem_of_getElem? (i := 10) (by decide +kernel), List.mem_of_getElem? (i := 172) (by decide +kernel), List.mem_of_getElem? (i := 173) (by decide +kernel)⟩
theorem lw_p1 : lw_okq (⟨"FiddleShares", "refusePlace", "(II)I"⟩, 11) := ⟨⟨by decide +kernel, by decide +kernel⟩, List.mem_of_getElem? (i := 10) (by decide +kernel), List.mem_of_getElem? (i := 184) (by decide +kernel), List.mem_of_getElem? (i := 185) (by decide +kernel)⟩
theorem lw_p2 : lw_okq (⟨"FiddleShares", "tell", "(II)I"⟩, 11) := ⟨⟨by decide +kernel, by decide +kernel⟩, List.mem_of_getElem? (i := 10) (by decide +kernel), List.mem_of_getElem? (i := 200) (by decide +kernel), List.mem_of_getElem? (i := 201) (by decide +kernel)⟩
theorem lw_p3 : lw_okq (⟨"FiddleShares", "isKin", "(I)Z"⟩, 11) := ⟨⟨by decide +kernel, by decide +kernel⟩, List.mem_of_getElem? (i := 10) (by decide +kernel), List.mem_of_getElem? (i := 290) (by decide +kernel), List.mem_of_getElem? (i := 291) (by decide +kernel)⟩
theorem lw_p4 : lw_okq (⟨"FiddleShares", "ofOne", "(II)I"⟩, 11) := ⟨⟨by decide +kernel, by decide +kernel⟩, List.mem_of_getElem? (i := 10) (by decide +kernel), List.mem_of_getElem? (i := 294) (by decide +kernel), List.mem_of_getElem? (i := 295) (by decide +kernel)⟩
theorem lw_p5 : lw_okq (⟨"FiddleShares", "noKin", "()Z"⟩, 11) := ⟨⟨by decide +kernel, by decide +kernel⟩, List.mem_of_getElem? (i := 10) (by decide +kernel), List.mem_of_getElem? (i := 326) (by decide +kernel), List.mem_of_getElem? (i := 327) (by decide +kernel)⟩
theorem lw_p6 : lw_okq (⟨"FiddleShares", "areTwo", "(II)Z"⟩, 11) := ⟨⟨by decide +kernel, by decide +kernel⟩, List.mem_of_getElem? (i := 10) (by decide +kernel), List.mem_of_getElem? (i := 354) (by decide +kernel), List.mem_of_getElem? (i := 355) (by decide +kernel)⟩
theorem lw_p7 : lw_okq (⟨"FiddleShares", "purseBehind", "(III)I"⟩, 11) := ⟨⟨by decide +kernel, by decide +kernel⟩, List.mem_of_getElem? (i := 10) (by decide +kernel), List.mem_of_getElem? (i := 409) (by decide +kernel), List.mem_of_getElem? (i := 410) (by decide +kernel)⟩
theorem lw_p8 : lw_okq (⟨"FiddleShares", "changedBy", "(I)I"⟩, 11) := ⟨⟨by decide +kernel, by decide +kernel⟩, List.mem_of_getElem? (i := 10) (by decide +kernel), List.mem_of_getElem? (i := 422) (by decide +kernel), List.mem_of_getElem? (i := 423) (by decide +kernel)⟩
theorem lw_p9 : lw_okq (⟨"FiddleShares", "sootBy", "(II)I"⟩, 11) := ⟨⟨by decide +kernel, by decide +kernel⟩, List.mem_of_getElem? (i := 10) (by decide +kernel), List.mem_of_getElem? (i := 426) (by decide +kernel), List.mem_of_getElem? (i := 427) (by decide +kernel)⟩
theorem lw_p10 : lw_okq (⟨"FiddleShares", "evenBy", "(IIII)Z"⟩, 11) := ⟨⟨by decide +kernel, by decide +kernel⟩, List.mem_of_getElem? (i := 10) (by decide +kernel), List.mem_of_getElem? (i := 430) (by decide +kernel), List.mem_of_getElem? (i := 431) (by decide +kernel)⟩
theorem lw_p11 : lw_okq (⟨"FiddleShares", "laySoot", "(II)V"⟩, 11) := ⟨⟨by decide +kernel, by decide +kernel⟩, List.mem_of_getElem? (i := 10) (by decide +kernel), List.mem_of_getElem? (i := 434) (by decide +kernel), List.mem_of_getElem? (i := 435) (by decide +kernel)⟩
theorem lw_p12 : lw_okq (⟨"FiddleShares", "givenIfChanged", "(III)I"⟩, 11) := ⟨⟨by decide +kernel, by decide +kernel⟩, List.mem_of_getElem? (i := 10) (by decide +kernel), List.mem_of_getElem? (i := 442) (by decide +kernel), List.mem_of_getElem? (i := 443) (by decide +kernel)⟩
theorem lw_p13 : lw_okq (⟨"FiddleShares", "refusePairs", "(II)I"⟩, 11) := ⟨⟨by decide +kernel, by decide +kernel⟩, List.mem_of_getElem? (i := 10) (by decide +kernel), List.mem_of_getElem? (i := 450) (by decide +kernel), List.mem_of_getElem? (i := 451) (by decide +kernel)⟩
theorem lw_p14 : lw_okq (⟨"FiddleShares", "fitsPairs", "(IIII)Z"⟩, 11) := ⟨⟨by decide +kernel, by decide +kernel⟩, List.mem_of_getElem? (i := 10) (by decide +kernel), List.mem_of_getElem? (i := 454) (by decide +kernel), List.mem_of_getElem? (i := 455) (by decide +kernel)⟩
theorem lw_p15 : lw_okq (⟨"FiddleShares", "kindsByPairs", "(II)I"⟩, 11) := ⟨⟨by decide +kernel, by decide +kernel⟩, List.mem_of_getElem? (i := 10) (by decide +kernel), List.mem_of_getElem? (i := 462) (by decide +kernel), List.mem_of_getElem? (i := 463) (by decide +kernel)⟩
def lw_privs_1 : List (MethodName × Nat) := [(⟨"FiddleShares", "refuse", "(I)I"⟩, 11), (⟨"FiddleShares", "refusePlace", "(II)I"⟩, 11), (⟨"FiddleShares", "tell", "(II)I"⟩, 11), (⟨"FiddleShares", "isKin", "(I)Z"⟩, 11), (⟨"FiddleShares", "ofOne", "(II)I"⟩, 11), (⟨"FiddleShares", "noKin", "()Z"⟩, 11), (⟨"FiddleShares", "areTwo", "(II)Z"⟩, 11), (⟨"FiddleShares", "purseBehind", "(III)I"⟩, 11), (⟨"FiddleShares", "changedBy", "(I)I"⟩, 11), (⟨"FiddleShares", "sootBy", "(II)I"⟩, 11), (⟨"FiddleShares", "evenBy", "(IIII)Z"⟩, 11), (⟨"FiddleShares", "laySoot", "(II)V"⟩, 11), (⟨"FiddleShares", "givenIfChanged", "(III)I"⟩, 11), (⟨"FiddleShares", "refusePairs", "(II)I"⟩, 11), (⟨"FiddleShares", "fitsPairs", "(IIII)Z"⟩, 11), (⟨"FiddleShares", "kindsByPairs", "(II)I"⟩, 11)]
theorem lw_r1 : ∀ q ∈ lw_privs_1, lw_okq q := List.forall_mem_cons.mpr ⟨lw_p0, List.forall_mem_cons.mpr ⟨lw_p1, List.forall_mem_cons.mpr ⟨lw_p2, List.forall_mem_cons.mpr ⟨lw_p3, List.forall_mem_cons.mpr ⟨lw_p4, List.forall_mem_cons.mpr ⟨lw_p5, List.forall_mem_cons.mpr ⟨lw_p6, List.forall_mem_cons.mpr ⟨lw_p7, List.forall_mem_cons.mpr ⟨lw_p8, List.forall_mem_cons.mpr ⟨lw_p9, List.forall_mem_cons.mpr ⟨lw_p10, List.forall_mem_cons.mpr ⟨lw_p11, List.forall_mem_cons.mpr ⟨lw_p12, List.forall_mem_cons.mpr ⟨lw_p13, List.forall_mem_cons.mpr ⟨lw_p14, List.forall_mem_cons.mpr ⟨lw_p15, fun _ h => absurd h List.not_mem_nil⟩⟩⟩⟩⟩⟩⟩⟩⟩⟩⟩⟩⟩⟩⟩⟩
theorem lw_p16 : lw_okq (⟨"FiddleShares", "greatestPart", "(III)I"⟩, 11) := ⟨⟨by decide +kernel, by decide +kernel⟩, List.mem_of_getElem? (i := 10) (by decide +kernel), List.mem_of_getElem? (i := 470) (by decide +kernel), List.mem_of_getElem? (i := 471) (by decide +kernel)⟩
theorem lw_p17 : lw_okq (⟨"FiddleShares", "partLike", "(IIII)I"⟩, 11) := ⟨⟨by decide +kernel, by decide +kernel⟩, List.mem_of_getElem? (i := 10) (by decide +kernel), List.mem_of_getElem? (i := 474) (by decide +kernel), List.mem_of_getElem? (i := 475) (by decide +kernel)⟩
theorem lw_p18 : lw_okq (⟨"FiddleShares", "duelEnd", "(III)I"⟩, 11) := ⟨⟨by decide +kernel, by decide +kernel⟩, List.mem_of_getElem? (i := 10) (by decide +kernel), List.mem_of_getElem? (i := 483) (by decide +kernel), List.mem_of_getElem? (i := 484) (by decide +kernel)⟩
theorem lw_p19 : lw_okq (⟨"FiddleShares", "bestForFirst", "(I)I"⟩, 11) := ⟨⟨by decide +kernel, by decide +kernel⟩, List.mem_of_getElem? (i := 10) (by decide +kernel), List.mem_of_getElem? (i := 487) (by decide +kernel), List.mem_of_getElem? (i := 488) (by decide +kernel)⟩
theorem lw_p20 : lw_okq (⟨"FiddleShares", "bestForSecond", "(I)I"⟩, 11) := ⟨⟨by decide +kernel, by decide +kernel⟩, List.mem_of_getElem? (i := 10) (by decide +kernel), List.mem_of_getElem? (i := 495) (by decide +kernel), List.mem_of_getElem? (i := 496) (by decide +kernel)⟩
theorem lw_p21 : lw_okq (⟨"FiddleShares", "chanceOf", "(II)J"⟩, 11) := ⟨⟨by decide +kernel, by decide +kernel⟩, List.mem_of_getElem? (i := 10) (by decide +kernel), List.mem_of_getElem? (i := 511) (by decide +kernel), List.mem_of_getElem? (i := 512) (by decide +kernel)⟩
theorem lw_p22 : lw_okq (⟨"FiddleShares", "tellPart", "(J)V"⟩, 11) := ⟨⟨by decide +kernel, by decide +kernel⟩, List.mem_of_getElem? (i := 10) (by decide +kernel), List.mem_of_getElem? (i := 515) (by decide +kernel), List.mem_of_getElem? (i := 516) (by decide +kernel)⟩
theorem lw_p23 : lw_okq (⟨"FiddleShares", "givenUnless", "(I)I"⟩, 11) := ⟨⟨by decide +kernel, by decide +kernel⟩, List.mem_of_getElem? (i := 10) (by decide +kernel), List.mem_of_getElem? (i := 527) (by decide +kernel), List.mem_of_getElem? (i := 528) (by decide +kernel)⟩
theorem lw_p24 : lw_okq (⟨"FiddleShares", "deedByLot", "(I)I"⟩, 11) := ⟨⟨by decide +kernel, by decide +kernel⟩, List.mem_of_getElem? (i := 10) (by decide +kernel), List.mem_of_getElem? (i := 538) (by decide +kernel), List.mem_of_getElem? (i := 539) (by decide +kernel)⟩
theorem lw_p25 : lw_okq (⟨"FiddleShares", "counted", "(I)I"⟩, 11) := ⟨⟨by decide +kernel, by decide +kernel⟩, List.mem_of_getElem? (i := 10) (by decide +kernel), List.mem_of_getElem? (i := 562) (by decide +kernel), List.mem_of_getElem? (i := 563) (by decide +kernel)⟩
theorem lw_p26 : lw_okq (⟨"FiddleSharesModel", "forgets", "()V"⟩, 27) := ⟨⟨by decide +kernel, by decide +kernel⟩, List.mem_of_getElem? (i := 607) (by decide +kernel), List.mem_of_getElem? (i := 613) (by decide +kernel), List.mem_of_getElem? (i := 614) (by decide +kernel)⟩
theorem lw_p27 : lw_okq (⟨"FiddleSharesModel", "found", "(I)I"⟩, 27) := ⟨⟨by decide +kernel, by decide +kernel⟩, List.mem_of_getElem? (i := 607) (by decide +kernel), List.mem_of_getElem? (i := 710) (by decide +kernel), List.mem_of_getElem? (i := 711) (by decide +kernel)⟩
theorem lw_p28 : lw_okq (⟨"FiddleSharesModel", "tell", "(I)I"⟩, 27) := ⟨⟨by decide +kernel, by decide +kernel⟩, List.mem_of_getElem? (i := 607) (by decide +kernel), List.mem_of_getElem? (i := 718) (by decide +kernel), List.mem_of_getElem? (i := 719) (by decide +kernel)⟩
theorem lw_p29 : lw_okq (⟨"FiddleSharesModel", "reads", "(I)I"⟩, 27) := ⟨⟨by decide +kernel, by decide +kernel⟩, List.mem_of_getElem? (i := 607) (by decide +kernel), List.mem_of_getElem? (i := 754) (by decide +kernel), List.mem_of_getElem? (i := 755) (by decide +kernel)⟩
theorem lw_p30 : lw_okq (⟨"FiddleSharesModel", "skips", "()V"⟩, 27) := ⟨⟨by decide +kernel, by decide +kernel⟩, List.mem_of_getElem? (i := 607) (by decide +kernel), List.mem_of_getElem? (i := 758) (by decide +kernel), List.mem_of_getElem? (i := 759) (by decide +kernel)⟩
theorem lw_p31 : lw_okq (⟨"FiddleSharesModel", "here", "()I"⟩, 27) := ⟨⟨by decide +kernel, by decide +kernel⟩, List.mem_of_getElem? (i := 607) (by decide +kernel), List.mem_of_getElem? (i := 762) (by decide +kernel), List.mem_of_getElem? (i := 763) (by decide +kernel)⟩
def lw_privs_2 : List (MethodName × Nat) := [(⟨"FiddleShares", "greatestPart", "(III)I"⟩, 11), (⟨"FiddleShares", "partLike", "(IIII)I"⟩, 11), (⟨"FiddleShares", "duelEnd", "(III)I"⟩, 11), (⟨"FiddleShares", "bestForFirst", "(I)I"⟩, 11), (⟨"FiddleShares", "bestForSecond", "(I)I"⟩, 11), (⟨"FiddleShares", "chanceOf", "(II)J"⟩, 11), (⟨"FiddleShares", "tellPart", "(J)V"⟩, 11), (⟨"FiddleShares", "givenUnless", "(I)I"⟩, 11), (⟨"FiddleShares", "deedByLot", "(I)I"⟩, 11), (⟨"FiddleShares", "counted", "(I)I"⟩, 11), (⟨"FiddleSharesModel", "forgets", "()V"⟩, 27), (⟨"FiddleSharesModel", "found", "(I)I"⟩, 27), (⟨"FiddleSharesModel", "tell", "(I)I"⟩, 27), (⟨"FiddleSharesModel", "reads", "(I)I"⟩, 27), (⟨"FiddleSharesModel", "skips", "()V"⟩, 27), (⟨"FiddleSharesModel", "here", "()I"⟩, 27)]
theorem lw_r2 : ∀ q ∈ lw_privs_2, lw_okq q := List.forall_mem_cons.mpr ⟨lw_p16, List.forall_mem_cons.mpr ⟨lw_p17, List.forall_mem_cons.mpr ⟨lw_p18, List.forall_mem_cons.mpr ⟨lw_p19, List.forall_mem_cons.mpr ⟨lw_p20, List.forall_mem_cons.mpr ⟨lw_p21, List.forall_mem_cons.mpr ⟨lw_p22, List.forall_mem_cons.mpr ⟨lw_p23, List.forall_mem_cons.mpr ⟨lw_p24, List.forall_mem_cons.mpr ⟨lw_p25, List.forall_mem_cons.mpr ⟨lw_p26, List.forall_mem_cons.mpr ⟨lw_p27, List.forall_mem_cons.mpr ⟨lw_p28, List.forall_mem_cons.mpr ⟨lw_p29, List.forall_mem_cons.mpr ⟨lw_p30, List.forall_mem_cons.mpr ⟨lw_p31, fun _ h => absurd h List.not_mem_nil⟩⟩⟩⟩⟩⟩⟩⟩⟩⟩⟩⟩⟩⟩⟩⟩
theorem lw_p32 : lw_okq (⟨"FiddleSharesModel", "readsOne", "()Z"⟩, 27) := ⟨⟨by decide +kernel, by decide +kernel⟩, List.mem_of_getElem? (i := 607) (by decide +kernel), List.mem_of_getElem? (i := 766) (by decide +kernel), List.mem_of_getElem? (i := 767) (by decide +kernel)⟩
theorem lw_p33 : lw_okq (⟨"FiddleSharesModel", "isFigure", "()Z"⟩, 27) := ⟨⟨by decide +kernel, by decide +kernel⟩, List.mem_of_getElem? (i := 607) (by decide +kernel), List.mem_of_getElem? (i := 773) (by decide +kernel), List.mem_of_getElem? (i := 774) (by decide +kernel)⟩
theorem lw_p34 : lw_okq (⟨"FiddleSharesModel", "isOne", "(I)Z"⟩, 27) := ⟨⟨by decide +kernel, by decide +kernel⟩, List.mem_of_getElem? (i := 607) (by decide +kernel), List.mem_of_getElem? (i := 787) (by decide +kernel), List.mem_of_getElem? (i := 788) (by decide +kernel)⟩
theorem lw_p35 : lw_okq (⟨"FiddleSharesModel", "regardAs", "(II)I"⟩, 27) := ⟨⟨by decide +kernel, by decide +kernel⟩, List.mem_of_getElem? (i := 607) (by decide +kernel), List.mem_of_getElem? (i := 792) (by decide +kernel), List.mem_of_getElem? (i := 793) (by decide +kernel)⟩
theorem lw_p36 : lw_okq (⟨"FiddleSharesModel", "paid", "(I)I"⟩, 27) := ⟨⟨by decide +kernel, by decide +kernel⟩, List.mem_of_getElem? (i := 607) (by decide +kernel), List.mem_of_getElem? (i := 805) (by decide +kernel), List.mem_of_getElem? (i := 806) (by decide +kernel)⟩
theorem lw_p37 : lw_okq (⟨"FiddleSharesModel", "laysRegards", "([I)I"⟩, 27) := ⟨⟨by decide +kernel, by decide +kernel⟩, List.mem_of_getElem? (i := 607) (by decide +kernel), List.mem_of_getElem? (i := 809) (by decide +kernel), List.mem_of_getElem? (i := 810) (by decide +kernel)⟩
theorem lw_p38 : lw_okq (⟨"FiddleSharesModel", "remember", "()V"⟩, 27) := ⟨⟨by decide +kernel, by decide +kernel⟩, List.mem_of_getElem? (i := 607) (by decide +kernel), List.mem_of_getElem? (i := 829) (by decide +kernel), List.mem_of_getElem? (i := 830) (by decide +kernel)⟩
theorem lw_p39 : lw_okq (⟨"FiddleSharesModel", "goes", "([I)I"⟩, 27) := ⟨⟨by decide +kernel, by decide +kernel⟩, List.mem_of_getElem? (i := 607) (by decide +kernel), List.mem_of_getElem? (i := 836) (by decide +kernel), List.mem_of_getElem? (i := 837) (by decide +kernel)⟩
theorem lw_p40 : lw_okq (⟨"FiddleSharesModel", "gives", "(I)I"⟩, 27) := ⟨⟨by decide +kernel, by decide +kernel⟩, List.mem_of_getElem? (i := 607) (by decide +kernel), List.mem_of_getElem? (i := 840) (by decide +kernel), List.mem_of_getElem? (i := 841) (by decide +kernel)⟩
theorem lw_p41 : lw_okq (⟨"FiddleSharesModel", "answer", "(II)I"⟩, 27) := ⟨⟨by decide +kernel, by decide +kernel⟩, List.mem_of_getElem? (i := 607) (by decide +kernel), List.mem_of_getElem? (i := 873) (by decide +kernel), List.mem_of_getElem? (i := 874) (by decide +kernel)⟩
theorem lw_p42 : lw_okq (⟨"FiddleSharesModel", "layAside", "()V"⟩, 27) := ⟨⟨by decide +kernel, by decide +kernel⟩, List.mem_of_getElem? (i := 607) (by decide +kernel), List.mem_of_getElem? (i := 882) (by decide +kernel), List.mem_of_getElem? (i := 883) (by decide +kernel)⟩
theorem lw_p43 : lw_okq (⟨"FiddleSharesModel", "purseBehind", "(II)I"⟩, 27) := ⟨⟨by decide +kernel, by decide +kernel⟩, List.mem_of_getElem? (i := 607) (by decide +kernel), List.mem_of_getElem? (i := 899) (by decide +kernel), List.mem_of_getElem? (i := 900) (by decide +kernel)⟩
theorem lw_p44 : lw_okq (⟨"FiddleSharesModel", "givesIn", "(I)I"⟩, 27) := ⟨⟨by decide +kernel, by decide +kernel⟩, List.mem_of_getElem? (i := 607) (by decide +kernel), List.mem_of_getElem? (i := 903) (by decide +kernel), List.mem_of_getElem? (i := 904) (by decide +kernel)⟩
theorem lw_p45 : lw_okq (⟨"FiddleSharesModel", "laysSoot", "(I)I"⟩, 27) := ⟨⟨by decide +kernel, by decide +kernel⟩, List.mem_of_getElem? (i := 607) (by decide +kernel), List.mem_of_getElem? (i := 913) (by decide +kernel), List.mem_of_getElem? (i := 914) (by decide +kernel)⟩
theorem lw_p46 : lw_okq (⟨"FiddleSharesModel", "changes", "(II)V"⟩, 27) := ⟨⟨by decide +kernel, by decide +kernel⟩, List.mem_of_getElem? (i := 607) (by decide +kernel), List.mem_of_getElem? (i := 922) (by decide +kernel), List.mem_of_getElem? (i := 923) (by decide +kernel)⟩
theorem lw_p47 : lw_okq (⟨"FiddleSharesModel", "refusesPairs", "(I)I"⟩, 27) := ⟨⟨by decide +kernel, by decide +kernel⟩, List.mem_of_getElem? (i := 607) (by decide +kernel), List.mem_of_getElem? (i := 930) (by decide +kernel), List.mem_of_getElem? (i := 931) (by decide +kernel)⟩
def lw_privs_3 : List (MethodName × Nat) := [(⟨"FiddleSharesModel", "readsOne", "()Z"⟩, 27), (⟨"FiddleSharesModel", "isFigure", "()Z"⟩, 27), (⟨"FiddleSharesModel", "isOne", "(I)Z"⟩, 27), (⟨"FiddleSharesModel", "regardAs", "(II)I"⟩, 27), (⟨"FiddleSharesModel", "paid", "(I)I"⟩, 27), (⟨"FiddleSharesModel", "laysRegards", "([I)I"⟩, 27), (⟨"FiddleSharesModel", "remember", "()V"⟩, 27), (⟨"FiddleSharesModel", "goes", "([I)I"⟩, 27), (⟨"FiddleSharesModel", "gives", "(I)I"⟩, 27), (⟨"FiddleSharesModel", "answer", "(II)I"⟩, 27), (⟨"FiddleSharesModel", "layAside", "()V"⟩, 27), (⟨"FiddleSharesModel", "purseBehind", "(II)I"⟩, 27), (⟨"FiddleSharesModel", "givesIn", "(I)I"⟩, 27), (⟨"FiddleSharesModel", "laysSoot", "(I)I"⟩, 27), (⟨"FiddleSharesModel", "changes", "(II)V"⟩, 27), (⟨"FiddleSharesModel", "refusesPairs", "(I)I"⟩, 27)]
theorem lw_r3 : ∀ q ∈ lw_privs_3, lw_okq q := List.forall_mem_cons.mpr ⟨lw_p32, List.forall_mem_cons.mpr ⟨lw_p33, List.forall_mem_cons.mpr ⟨lw_p34, List.forall_mem_cons.mpr ⟨lw_p35, List.forall_mem_cons.mpr ⟨lw_p36, List.forall_mem_cons.mpr ⟨lw_p37, List.forall_mem_cons.mpr ⟨lw_p38, List.forall_mem_cons.mpr ⟨lw_p39, List.forall_mem_cons.mpr ⟨lw_p40, List.forall_mem_cons.mpr ⟨lw_p41, List.forall_mem_cons.mpr ⟨lw_p42, List.forall_mem_cons.mpr ⟨lw_p43, List.forall_mem_cons.mpr ⟨lw_p44, List.forall_mem_cons.mpr ⟨lw_p45, List.forall_mem_cons.mpr ⟨lw_p46, List.forall_mem_cons.mpr ⟨lw_p47, fun _ h => absurd h List.not_mem_nil⟩⟩⟩⟩⟩⟩⟩⟩⟩⟩⟩⟩⟩⟩⟩⟩
theorem lw_p48 : lw_okq (⟨"FiddleSharesModel", "isSo", "(IIII)Z"⟩, 27) := ⟨⟨by decide +kernel, by decide +kernel⟩, List.mem_of_getElem? (i := 607) (by decide +kernel), List.mem_of_getElem? (i := 935) (by decide +kernel), List.mem_of_getElem? (i := 936) (by decide +kernel)⟩
theorem lw_p49 : lw_okq (⟨"FiddleSharesModel", "kindsOf", "(II)I"⟩, 27) := ⟨⟨by decide +kernel, by decide +kernel⟩, List.mem_of_getElem? (i := 607) (by decide +kernel), List.mem_of_getElem? (i := 943) (by decide +kernel), List.mem_of_getElem? (i := 944) (by decide +kernel)⟩
theorem lw_p50 : lw_okq (⟨"FiddleSharesModel", "weighs", "(IZ)I"⟩, 27) := ⟨⟨by decide +kernel, by decide +kernel⟩, List.mem_of_getElem? (i := 607) (by decide +kernel), List.mem_of_getElem? (i := 958) (by decide +kernel), List.mem_of_getElem? (i := 959) (by decide +kernel)⟩
theorem lw_p51 : lw_okq (⟨"FiddleSharesModel", "ways", "(III)J"⟩, 27) := ⟨⟨by decide +kernel, by decide +kernel⟩, List.mem_of_getElem? (i := 607) (by decide +kernel), List.mem_of_getElem? (i := 967) (by decide +kernel), List.mem_of_getElem? (i := 968) (by decide +kernel)⟩
theorem lw_p52 : lw_okq (⟨"FiddleSharesModel", "allWays", "()J"⟩, 27) := ⟨⟨by decide +kernel, by decide +kernel⟩, List.mem_of_getElem? (i := 607) (by decide +kernel), List.mem_of_getElem? (i := 971) (by decide +kernel), List.mem_of_getElem? (i := 972) (by decide +kernel)⟩
theorem lw_p53 : lw_okq (⟨"FiddleSharesModel", "fraction", "(JJ)I"⟩, 27) := ⟨⟨by decide +kernel, by decide +kernel⟩, List.mem_of_getElem? (i := 607) (by decide +kernel), List.mem_of_getElem? (i := 975) (by decide +kernel), List.mem_of_getElem? (i := 976) (by decide +kernel)⟩
theorem lw_p54 : lw_okq (⟨"FiddleSharesModel", "refuses", "(I)I"⟩, 27) := ⟨⟨by decide +kernel, by decide +kernel⟩, List.mem_of_getElem? (i := 607) (by decide +kernel), List.mem_of_getElem? (i := 988) (by decide +kernel), List.mem_of_getElem? (i := 989) (by decide +kernel)⟩
theorem lw_p55 : lw_okq (⟨"FiddleSharesModel", "lot", "(I)V"⟩, 27) := ⟨⟨by decide +kernel, by decide +kernel⟩, List.mem_of_getElem? (i := 607) (by decide +kernel), List.mem_of_getElem? (i := 994) (by decide +kernel), List.mem_of_getElem? (i := 995) (by decide +kernel)⟩
theorem lw_p56 : lw_okq (⟨"FiddleSharesModel", "purses", "()I"⟩, 27) := ⟨⟨by decide +kernel, by decide +kernel⟩, List.mem_of_getElem? (i := 607) (by decide +kernel), List.mem_of_getElem? (i := 998) (by decide +kernel), List.mem_of_getElem? (i := 999) (by decide +kernel)⟩
theorem lw_p57 : lw_okq (⟨"FiddleSharesModel", "sooted", "()I"⟩, 27) := ⟨⟨by decide +kernel, by decide +kernel⟩, List.mem_of_getElem? (i := 607) (by decide +kernel), List.mem_of_getElem? (i := 1018) (by decide +kernel), List.mem_of_getElem? (i := 1019) (by decide +kernel)⟩
theorem lw_p58 : lw_okq (⟨"FiddleSharesModel", "ofKind", "(I)I"⟩, 27) := ⟨⟨by decide +kernel, by decide +kernel⟩, List.mem_of_getElem? (i := 607) (by decide +kernel), List.mem_of_getElem? (i := 1025) (by decide +kernel), List.mem_of_getElem? (i := 1026) (by decide +kernel)⟩
def lw_privs_4 : List (MethodName × Nat) := [(⟨"FiddleSharesModel", "isSo", "(IIII)Z"⟩, 27), (⟨"FiddleSharesModel", "kindsOf", "(II)I"⟩, 27), (⟨"FiddleSharesModel", "weighs", "(IZ)I"⟩, 27), (⟨"FiddleSharesModel", "ways", "(III)J"⟩, 27), (⟨"FiddleSharesModel", "allWays", "()J"⟩, 27), (⟨"FiddleSharesModel", "fraction", "(JJ)I"⟩, 27), (⟨"FiddleSharesModel", "refuses", "(I)I"⟩, 27), (⟨"FiddleSharesModel", "lot", "(I)V"⟩, 27), (⟨"FiddleSharesModel", "purses", "()I"⟩, 27), (⟨"FiddleSharesModel", "sooted", "()I"⟩, 27), (⟨"FiddleSharesModel", "ofKind", "(I)I"⟩, 27)]
theorem lw_r4 : ∀ q ∈ lw_privs_4, lw_okq q := List.forall_mem_cons.mpr ⟨lw_p48, List.forall_mem_cons.mpr ⟨lw_p49, List.forall_mem_cons.mpr ⟨lw_p50, List.forall_mem_cons.mpr ⟨lw_p51, List.forall_mem_cons.mpr ⟨lw_p52, List.forall_mem_cons.mpr ⟨lw_p53, List.forall_mem_cons.mpr ⟨lw_p54, List.forall_mem_cons.mpr ⟨lw_p55, List.forall_mem_cons.mpr ⟨lw_p56, List.forall_mem_cons.mpr ⟨lw_p57, List.forall_mem_cons.mpr ⟨lw_p58, fun _ h => absurd h List.not_mem_nil⟩⟩⟩⟩⟩⟩⟩⟩⟩⟩⟩
def lw_privs : List (MethodName × Nat) := lw_privs_1 ++ (lw_privs_2 ++ (lw_privs_3 ++ (lw_privs_4)))
def lw_tbl : List Cond := k2_sels lw_privs ++ tables_1
theorem lw_privs_ok : ∀ q ∈ lw_privs, lw_okq q := by
  show ∀ q ∈ lw_privs_1 ++ (lw_privs_2 ++ (lw_privs_3 ++ (lw_privs_4))), lw_okq q
  exact List.forall_mem_append.mpr ⟨lw_r1, List.forall_mem_append.mpr ⟨lw_r2, List.forall_mem_append.mpr ⟨lw_r3, lw_r4⟩⟩⟩
end
section
def RX0 : String := "FiddleShares$House"
def TX0 : u_T := fun k => match k with
  | 0 => ("FiddleShares$House", "first", "LFiddleShares$Kin;", true)
  | 1 => ("FiddleShares$House", "now", "LFiddleShares$Kin;", true)
  | 2 => ("FiddleShares$House", "quarters", "I", false)
  | 3 => ("FiddleShares$House", "done", "I", false)
  | 4 => ("FiddleShares$House", "deeds", "[I", true)
  | 5 => ("FiddleShares$House", "keptDeeds", "[[I", true)
  | _ => ("FiddleShares$House", "keptDone", "[I", true)
def tyX0 : Nat → FieldType := fun k => match k with
  | 0 => .object "FiddleShares$Kin"
  | 1 => .object "FiddleShares$Kin"
  | 2 => .int
  | 3 => .int
  | 4 => .array .int
  | 5 => .array (.array .int)
  | _ => .array .int
abbrev wsX00 : List Cond := u_ws RX0 TX0 7
theorem nmX0 : ∀ a, a < 7 → ∀ b, b < 7 → a ≠ b → (TX0 a).2.1 ≠ (TX0 b).2.1 := by decide +kernel
theorem tyX0_ok : ∀ k, k < 7 → parseFieldDescriptor (TX0 k).2.2.1 = some (tyX0 k) := by decide +kernel
abbrev cX0_init : ByteArray := prog_2_method_1_code
def yX0_init : MethodName := ⟨RX0, "<init>", "()V"⟩
abbrev cX0_found : ByteArray := prog_2_method_2_code
def yX0_found : MethodName := ⟨RX0, "found", "(LFiddleShares$Kin;)V"⟩
abbrev cX0_deed : ByteArray := prog_2_method_3_code
def yX0_deed : MethodName := ⟨RX0, "deed", "(IIII)I"⟩
abbrev cX0_wouldOverflow : ByteArray := prog_2_method_4_code
def yX0_wouldOverflow : MethodName := ⟨RX0, "wouldOverflow", "(I)Z"⟩
abbrev cX0_enter : ByteArray := prog_2_method_5_code
def yX0_enter : MethodName := ⟨RX0, "enter", "(I)V"⟩
abbrev cX0_perform : ByteArray := prog_2_method_6_code
def yX0_perform : MethodName := ⟨RX0, "perform", "(I)V"⟩
abbrev cX0_replay : ByteArray := prog_2_method_7_code
def yX0_replay : MethodName := ⟨RX0, "replay", "(I)V"⟩
abbrev cX0_store : ByteArray := prog_2_method_8_code
def yX0_store : MethodName := ⟨RX0, "store", "(I)V"⟩
abbrev cX0_restore : ByteArray := prog_2_method_9_code
def yX0_restore : MethodName := ⟨RX0, "restore", "(I)V"⟩
abbrev cX0_allKept : ByteArray := prog_2_method_10_code
def yX0_allKept : MethodName := ⟨RX0, "allKept", "()I"⟩
def RX1 : String := "FiddleShares$Kin"
def TX1 : u_T := fun k => match k with
  | 0 => ("FiddleShares$Kin", "size", "I", false)
  | 1 => ("FiddleShares$Kin", "kind", "[I", true)
  | 2 => ("FiddleShares$Kin", "look", "[I", true)
  | 3 => ("FiddleShares$Kin", "wants", "[I", true)
  | 4 => ("FiddleShares$Kin", "purse", "[I", true)
  | 5 => ("FiddleShares$Kin", "sooted", "[I", true)
  | 6 => ("FiddleShares$Kin", "regarded", "[I", true)
  | 7 => ("FiddleShares$Kin", "paid", "[I", true)
  | 8 => ("FiddleShares$Kin", "foremost", "I", false)
  | _ => ("FiddleShares$Kin", "given", "I", false)
def tyX1 : Nat → FieldType := fun k => match k with
  | 0 => .int
  | 1 => .array .int
  | 2 => .array .int
  | 3 => .array .int
  | 4 => .array .int
  | 5 => .array .int
  | 6 => .array .int
  | 7 => .array .int
  | 8 => .int
  | _ => .int
abbrev wsX10 : List Cond := u_ws RX1 TX1 10
theorem nmX1 : ∀ a, a < 10 → ∀ b, b < 10 → a ≠ b → (TX1 a).2.1 ≠ (TX1 b).2.1 := by decide +kernel
theorem tyX1_ok : ∀ k, k < 10 → parseFieldDescriptor (TX1 k).2.2.1 = some (tyX1 k) := by decide +kernel
abbrev cX1_init : ByteArray := prog_3_method_1_code
def yX1_init : MethodName := ⟨RX1, "<init>", "()V"⟩
abbrev cX1_take : ByteArray := prog_3_method_2_code
def yX1_take : MethodName := ⟨RX1, "take", "(LFiddleShares$Kin;)V"⟩
abbrev cX1_read : ByteArray := prog_3_method_3_code
def yX1_read : MethodName := ⟨RX1, "read", "([II)I"⟩
abbrev cX1_readItem : ByteArray := prog_3_method_4_code
def yX1_readItem : MethodName := ⟨RX1, "readItem", "([III)I"⟩
abbrev cX1_kindByLetter : ByteArray := prog_3_method_5_code
def yX1_kindByLetter : MethodName := ⟨RX1, "kindByLetter", "(I)I"⟩
abbrev cX1_kindAbove : ByteArray := prog_3_method_6_code
def yX1_kindAbove : MethodName := ⟨RX1, "kindAbove", "(I)I"⟩
abbrev cX1_isOf : ByteArray := prog_3_method_7_code
def yX1_isOf : MethodName := ⟨RX1, "isOf", "(II)Z"⟩
abbrev cX1_regardOf : ByteArray := prog_3_method_8_code
def yX1_regardOf : MethodName := ⟨RX1, "regardOf", "(IIII)I"⟩
abbrev cX1_regardAs : ByteArray := prog_3_method_9_code
def yX1_regardAs : MethodName := ⟨RX1, "regardAs", "(II)I"⟩
abbrev cX1_weigh : ByteArray := prog_3_method_10_code
def yX1_weigh : MethodName := ⟨RX1, "weigh", "()V"⟩
abbrev cX1_pass : ByteArray := prog_3_method_11_code
def yX1_pass : MethodName := ⟨RX1, "pass", "()Z"⟩
abbrev cX1_passAll : ByteArray := prog_3_method_12_code
def yX1_passAll : MethodName := ⟨RX1, "passAll", "(I)I"⟩
abbrev cX1_paidUnless : ByteArray := prog_3_method_13_code
def yX1_paidUnless : MethodName := ⟨RX1, "paidUnless", "(II)I"⟩
abbrev cX1_regardedUnless : ByteArray := prog_3_method_14_code
def yX1_regardedUnless : MethodName := ⟨RX1, "regardedUnless", "(II)I"⟩
abbrev cX1_firstWith : ByteArray := prog_3_method_15_code
def yX1_firstWith : MethodName := ⟨RX1, "firstWith", "(I)I"⟩
abbrev cX1_highestRegard : ByteArray := prog_3_method_16_code
def yX1_highestRegard : MethodName := ⟨RX1, "highestRegard", "()I"⟩
abbrev cX1_allPurses : ByteArray := prog_3_method_17_code
def yX1_allPurses : MethodName := ⟨RX1, "allPurses", "()I"⟩
abbrev cX1_allSooted : ByteArray := prog_3_method_18_code
def yX1_allSooted : MethodName := ⟨RX1, "allSooted", "()I"⟩
abbrev cX1_allOf : ByteArray := prog_3_method_19_code
def yX1_allOf : MethodName := ⟨RX1, "allOf", "(I)I"⟩
def RX2 : String := "FiddleShares$Shelf"
def TX2 : u_T := fun k => match k with
  | 0 => ("FiddleShares$Shelf", "cells", "[[I", true)
  | 1 => ("FiddleShares$Shelf", "sizes", "[I", true)
  | _ => ("FiddleShares$Shelf", "empty", "I", true)
def tyX2 : Nat → FieldType := fun k => match k with
  | 0 => .array (.array .int)
  | 1 => .array .int
  | _ => .int
abbrev wsX20 : List Cond := u_ws RX2 TX2 3
theorem nmX2 : ∀ a, a < 3 → ∀ b, b < 3 → a ≠ b → (TX2 a).2.1 ≠ (TX2 b).2.1 := by decide +kernel
theorem tyX2_ok : ∀ k, k < 3 → parseFieldDescriptor (TX2 k).2.2.1 = some (tyX2 k) := by decide +kernel
abbrev cX2_init : ByteArray := prog_4_method_1_code
def yX2_init : MethodName := ⟨RX2, "<init>", "(III)V"⟩
abbrev cX2_lie : ByteArray := prog_4_method_2_code
def yX2_lie : MethodName := ⟨RX2, "lie", "(II)V"⟩
abbrev cX2_has : ByteArray := prog_4_method_3_code
def yX2_has : MethodName := ⟨RX2, "has", "(I)Z"⟩
abbrev cX2_reaches : ByteArray := prog_4_method_4_code
def yX2_reaches : MethodName := ⟨RX2, "reaches", "(III)Z"⟩
abbrev cX2_sum : ByteArray := prog_4_method_5_code
def yX2_sum : MethodName := ⟨RX2, "sum", "(I)J"⟩
abbrev cX2_present : ByteArray := prog_4_method_6_code
def yX2_present : MethodName := ⟨RX2, "present", "()I"⟩
abbrev cX2_mixInto : ByteArray := prog_4_method_7_code
def yX2_mixInto : MethodName := ⟨RX2, "mixInto", "(J)J"⟩
def RX3 : String := "FiddleShares"
def TX3 : u_T := fun k => match k with
  | 0 => ("FiddleShares", "rows", "LFiddleShares$Shelf;", true)
  | 1 => ("FiddleShares", "texts", "LFiddleShares$Shelf;", true)
  | 2 => ("FiddleShares", "house", "LFiddleShares$House;", true)
  | 3 => ("FiddleShares", "aside", "LFiddleShares$Kin;", true)
  | 4 => ("FiddleShares", "duelWorth", "[I", true)
  | 5 => ("FiddleShares", "duelBefore", "[I", true)
  | 6 => ("FiddleShares", "findingCounts", "[I", true)
  | 7 => ("FiddleShares", "latestFinding", "I", false)
  | 8 => ("FiddleShares", "latestAsked", "I", false)
  | 9 => ("FiddleShares", "latestUpper", "J", false)
  | _ => ("FiddleShares", "latestLower", "J", false)
def tyX3 : Nat → FieldType := fun k => match k with
  | 0 => .object "FiddleShares$Shelf"
  | 1 => .object "FiddleShares$Shelf"
  | 2 => .object "FiddleShares$House"
  | 3 => .object "FiddleShares$Kin"
  | 4 => .array .int
  | 5 => .array .int
  | 6 => .array .int
  | 7 => .int
  | 8 => .int
  | 9 => .long
  | _ => .long
abbrev wsX30 : List Cond := u_ws RX3 TX3 11
theorem nmX3 : ∀ a, a < 11 → ∀ b, b < 11 → a ≠ b → (TX3 a).2.1 ≠ (TX3 b).2.1 := by decide +kernel
theorem tyX3_ok : ∀ k, k < 11 → parseFieldDescriptor (TX3 k).2.2.1 = some (tyX3 k) := by decide +kernel
abbrev cX3_init : ByteArray := prog_1_method_1_code
def yX3_init : MethodName := ⟨RX3, "<init>", "()V"⟩
abbrev cX3_row : ByteArray := prog_1_method_2_code
def yX3_row : MethodName := ⟨RX3, "row", "(II)I"⟩
abbrev cX3_lay : ByteArray := prog_1_method_3_code
def yX3_lay : MethodName := ⟨RX3, "lay", "(III)I"⟩
abbrev cX3_at : ByteArray := prog_1_method_4_code
def yX3_at : MethodName := ⟨RX3, "at", "(II)I"⟩
abbrev cX3_tear : ByteArray := prog_1_method_5_code
def yX3_tear : MethodName := ⟨RX3, "tear", "(I)I"⟩
abbrev cX3_copy : ByteArray := prog_1_method_6_code
def yX3_copy : MethodName := ⟨RX3, "copy", "(IIIII)I"⟩
abbrev cX3_mean : ByteArray := prog_1_method_7_code
def yX3_mean : MethodName := ⟨RX3, "mean", "(I)I"⟩
abbrev cX3_text : ByteArray := prog_1_method_8_code
def yX3_text : MethodName := ⟨RX3, "text", "(II)I"⟩
abbrev cX3_put : ByteArray := prog_1_method_9_code
def yX3_put : MethodName := ⟨RX3, "put", "(III)I"⟩
abbrev cX3_fault : ByteArray := prog_1_method_10_code
def yX3_fault : MethodName := ⟨RX3, "fault", "(I)I"⟩
abbrev cX3_house : ByteArray := prog_1_method_11_code
def yX3_house : MethodName := ⟨RX3, "house", "(I)I"⟩
abbrev cX3_one : ByteArray := prog_1_method_12_code
def yX3_one : MethodName := ⟨RX3, "one", "(II)I"⟩
abbrev cX3_mark : ByteArray := prog_1_method_13_code
def yX3_mark : MethodName := ⟨RX3, "mark", "(II)I"⟩
abbrev cX3_regard : ByteArray := prog_1_method_14_code
def yX3_regard : MethodName := ⟨RX3, "regard", "(III)I"⟩
abbrev cX3_quarter : ByteArray := prog_1_method_15_code
def yX3_quarter : MethodName := ⟨RX3, "quarter", "()I"⟩
abbrev cX3_soot : ByteArray := prog_1_method_16_code
def yX3_soot : MethodName := ⟨RX3, "soot", "(I)I"⟩
abbrev cX3_wash : ByteArray := prog_1_method_17_code
def yX3_wash : MethodName := ⟨RX3, "wash", "(I)I"⟩
abbrev cX3_gift : ByteArray := prog_1_method_18_code
def yX3_gift : MethodName := ⟨RX3, "gift", "(III)I"⟩
abbrev cX3_undo : ByteArray := prog_1_method_19_code
def yX3_undo : MethodName := ⟨RX3, "undo", "(I)I"⟩
abbrev cX3_keep : ByteArray := prog_1_method_20_code
def yX3_keep : MethodName := ⟨RX3, "keep", "(I)I"⟩
abbrev cX3_on : ByteArray := prog_1_method_21_code
def yX3_on : MethodName := ⟨RX3, "on", "(I)I"⟩
abbrev cX3_box : ByteArray := prog_1_method_22_code
def yX3_box : MethodName := ⟨RX3, "box", "()I"⟩
abbrev cX3_later : ByteArray := prog_1_method_23_code
def yX3_later : MethodName := ⟨RX3, "later", "(II)I"⟩
abbrev cX3_settles : ByteArray := prog_1_method_24_code
def yX3_settles : MethodName := ⟨RX3, "settles", "()I"⟩
abbrev cX3_mill : ByteArray := prog_1_method_25_code
def yX3_mill : MethodName := ⟨RX3, "mill", "(I)I"⟩
abbrev cX3_gains : ByteArray := prog_1_method_26_code
def yX3_gains : MethodName := ⟨RX3, "gains", "(I)I"⟩
abbrev cX3_even : ByteArray := prog_1_method_27_code
def yX3_even : MethodName := ⟨RX3, "even", "(IIII)I"⟩
abbrev cX3_change : ByteArray := prog_1_method_28_code
def yX3_change : MethodName := ⟨RX3, "change", "(I)I"⟩
abbrev cX3_looks : ByteArray := prog_1_method_29_code
def yX3_looks : MethodName := ⟨RX3, "looks", "(II)I"⟩
abbrev cX3_kinds : ByteArray := prog_1_method_30_code
def yX3_kinds : MethodName := ⟨RX3, "kinds", "(II)I"⟩
abbrev cX3_test : ByteArray := prog_1_method_31_code
def yX3_test : MethodName := ⟨RX3, "test", "(II)I"⟩
abbrev cX3_duel : ByteArray := prog_1_method_32_code
def yX3_duel : MethodName := ⟨RX3, "duel", "(III)I"⟩
abbrev cX3_odds : ByteArray := prog_1_method_33_code
def yX3_odds : MethodName := ⟨RX3, "odds", "(III)I"⟩
abbrev cX3_mid : ByteArray := prog_1_method_34_code
def yX3_mid : MethodName := ⟨RX3, "mid", "(I)I"⟩
abbrev cX3_lots : ByteArray := prog_1_method_35_code
def yX3_lots : MethodName := ⟨RX3, "lots", "(II)I"⟩
abbrev cX3_asked : ByteArray := prog_1_method_36_code
def yX3_asked : MethodName := ⟨RX3, "asked", "()I"⟩
abbrev cX3_upper : ByteArray := prog_1_method_37_code
def yX3_upper : MethodName := ⟨RX3, "upper", "()J"⟩
abbrev cX3_lower : ByteArray := prog_1_method_38_code
def yX3_lower : MethodName := ⟨RX3, "lower", "()J"⟩
abbrev cX3_count : ByteArray := prog_1_method_39_code
def yX3_count : MethodName := ⟨RX3, "count", "(I)I"⟩
abbrev cX3_finding : ByteArray := prog_1_method_40_code
def yX3_finding : MethodName := ⟨RX3, "finding", "()I"⟩
abbrev cX3_findings : ByteArray := prog_1_method_41_code
def yX3_findings : MethodName := ⟨RX3, "findings", "(I)I"⟩
abbrev cX3_digest : ByteArray := prog_1_method_42_code
def yX3_digest : MethodName := ⟨RX3, "digest", "()J"⟩
abbrev cX3_isRow : ByteArray := prog_1_method_43_code
def yX3_isRow : MethodName := ⟨RX3, "isRow", "(I)Z"⟩
abbrev cX3_isText : ByteArray := prog_1_method_44_code
def yX3_isText : MethodName := ⟨RX3, "isText", "(I)Z"⟩
abbrev cX3_isKept : ByteArray := prog_1_method_45_code
def yX3_isKept : MethodName := ⟨RX3, "isKept", "(I)Z"⟩
abbrev cX3_isKin : ByteArray := prog_1_method_46_code
def yX3_isKin : MethodName := ⟨RX3, "isKin", "(I)Z"⟩
abbrev cX3_areTwo : ByteArray := prog_1_method_47_code
def yX3_areTwo : MethodName := ⟨RX3, "areTwo", "(II)Z"⟩
abbrev cX3_noKin : ByteArray := prog_1_method_48_code
def yX3_noKin : MethodName := ⟨RX3, "noKin", "()Z"⟩
abbrev cX3_refuse : ByteArray := prog_1_method_49_code
def yX3_refuse : MethodName := ⟨RX3, "refuse", "(I)I"⟩
abbrev cX3_refusePlace : ByteArray := prog_1_method_50_code
def yX3_refusePlace : MethodName := ⟨RX3, "refusePlace", "(II)I"⟩
abbrev cX3_refusePairs : ByteArray := prog_1_method_51_code
def yX3_refusePairs : MethodName := ⟨RX3, "refusePairs", "(II)I"⟩
abbrev cX3_tell : ByteArray := prog_1_method_52_code
def yX3_tell : MethodName := ⟨RX3, "tell", "(II)I"⟩
abbrev cX3_tellPart : ByteArray := prog_1_method_53_code
def yX3_tellPart : MethodName := ⟨RX3, "tellPart", "(J)V"⟩
abbrev cX3_commonDivisor : ByteArray := prog_1_method_54_code
def yX3_commonDivisor : MethodName := ⟨RX3, "commonDivisor", "(JJ)J"⟩
abbrev cX3_ofOne : ByteArray := prog_1_method_55_code
def yX3_ofOne : MethodName := ⟨RX3, "ofOne", "(II)I"⟩
abbrev cX3_counted : ByteArray := prog_1_method_56_code
def yX3_counted : MethodName := ⟨RX3, "counted", "(I)I"⟩
abbrev cX3_purseBehind : ByteArray := prog_1_method_57_code
def yX3_purseBehind : MethodName := ⟨RX3, "purseBehind", "(III)I"⟩
abbrev cX3_sootBy : ByteArray := prog_1_method_58_code
def yX3_sootBy : MethodName := ⟨RX3, "sootBy", "(II)I"⟩
abbrev cX3_changedBy : ByteArray := prog_1_method_59_code
def yX3_changedBy : MethodName := ⟨RX3, "changedBy", "(I)I"⟩
abbrev cX3_evenBy : ByteArray := prog_1_method_60_code
def yX3_evenBy : MethodName := ⟨RX3, "evenBy", "(IIII)Z"⟩
abbrev cX3_laySoot : ByteArray := prog_1_method_61_code
def yX3_laySoot : MethodName := ⟨RX3, "laySoot", "(II)V"⟩
abbrev cX3_givenIfChanged : ByteArray := prog_1_method_62_code
def yX3_givenIfChanged : MethodName := ⟨RX3, "givenIfChanged", "(III)I"⟩
abbrev cX3_fitsPairs : ByteArray := prog_1_method_63_code
def yX3_fitsPairs : MethodName := ⟨RX3, "fitsPairs", "(IIII)Z"⟩
abbrev cX3_kindsByPairs : ByteArray := prog_1_method_64_code
def yX3_kindsByPairs : MethodName := ⟨RX3, "kindsByPairs", "(II)I"⟩
abbrev cX3_greatestPart : ByteArray := prog_1_method_65_code
def yX3_greatestPart : MethodName := ⟨RX3, "greatestPart", "(III)I"⟩
abbrev cX3_partLike : ByteArray := prog_1_method_66_code
def yX3_partLike : MethodName := ⟨RX3, "partLike", "(IIII)I"⟩
abbrev cX3_duelWay : ByteArray := prog_1_method_67_code
def yX3_duelWay : MethodName := ⟨RX3, "duelWay", "(II)I"⟩
abbrev cX3_duelEnd : ByteArray := prog_1_method_68_code
def yX3_duelEnd : MethodName := ⟨RX3, "duelEnd", "(III)I"⟩
abbrev cX3_bestForFirst : ByteArray := prog_1_method_69_code
def yX3_bestForFirst : MethodName := ⟨RX3, "bestForFirst", "(I)I"⟩
abbrev cX3_bestForSecond : ByteArray := prog_1_method_70_code
def yX3_bestForSecond : MethodName := ⟨RX3, "bestForSecond", "(I)I"⟩
abbrev cX3_chanceOf : ByteArray := prog_1_method_71_code
def yX3_chanceOf : MethodName := ⟨RX3, "chanceOf", "(II)J"⟩
abbrev cX3_givenUnless : ByteArray := prog_1_method_72_code
def yX3_givenUnless : MethodName := ⟨RX3, "givenUnless", "(I)I"⟩
abbrev cX3_deedByLot : ByteArray := prog_1_method_73_code
def yX3_deedByLot : MethodName := ⟨RX3, "deedByLot", "(I)I"⟩
def RX4 : String := "FiddleSharesModel"
def TX4 : u_T := fun k => match k with
  | 0 => ("FiddleSharesModel", "rows", "[I", true)
  | 1 => ("FiddleSharesModel", "rowSizes", "[I", true)
  | 2 => ("FiddleSharesModel", "texts", "[I", true)
  | 3 => ("FiddleSharesModel", "textSizes", "[I", true)
  | 4 => ("FiddleSharesModel", "asked", "I", false)
  | 5 => ("FiddleSharesModel", "upper", "J", false)
  | 6 => ("FiddleSharesModel", "lower", "J", false)
  | 7 => ("FiddleSharesModel", "finding", "I", false)
  | 8 => ("FiddleSharesModel", "findings", "[I", true)
  | 9 => ("FiddleSharesModel", "kin", "I", false)
  | 10 => ("FiddleSharesModel", "kinds", "[I", true)
  | 11 => ("FiddleSharesModel", "looked", "[I", true)
  | 12 => ("FiddleSharesModel", "wants", "[I", true)
  | 13 => ("FiddleSharesModel", "now", "[I", true)
  | 14 => ("FiddleSharesModel", "aside", "[I", true)
  | 15 => ("FiddleSharesModel", "regards", "[I", true)
  | 16 => ("FiddleSharesModel", "ahead", "[I", true)
  | 17 => ("FiddleSharesModel", "deeds", "I", false)
  | 18 => ("FiddleSharesModel", "kept", "[I", true)
  | 19 => ("FiddleSharesModel", "at", "I", false)
  | 20 => ("FiddleSharesModel", "size", "I", false)
  | 21 => ("FiddleSharesModel", "which", "I", false)
  | 22 => ("FiddleSharesModel", "value", "I", false)
  | 23 => ("FiddleSharesModel", "readKin", "I", false)
  | 24 => ("FiddleSharesModel", "read", "[I", true)
  | 25 => ("FiddleSharesModel", "comes", "[I", true)
  | _ => ("FiddleSharesModel", "then", "[I", true)
def tyX4 : Nat → FieldType := fun k => match k with
  | 0 => .array .int
  | 1 => .array .int
  | 2 => .array .int
  | 3 => .array .int
  | 4 => .int
  | 5 => .long
  | 6 => .long
  | 7 => .int
  | 8 => .array .int
  | 9 => .int
  | 10 => .array .int
  | 11 => .array .int
  | 12 => .array .int
  | 13 => .array .int
  | 14 => .array .int
  | 15 => .array .int
  | 16 => .array .int
  | 17 => .int
  | 18 => .array .int
  | 19 => .int
  | 20 => .int
  | 21 => .int
  | 22 => .int
  | 23 => .int
  | 24 => .array .int
  | 25 => .array .int
  | _ => .array .int
abbrev wsX40 : List Cond := u_ws RX4 TX4 27
theorem nmX4 : ∀ a, a < 27 → ∀ b, b < 27 → a ≠ b → (TX4 a).2.1 ≠ (TX4 b).2.1 := by decide +kernel
theorem tyX4_ok : ∀ k, k < 27 → parseFieldDescriptor (TX4 k).2.2.1 = some (tyX4 k) := by decide +kernel
abbrev cX4_init : ByteArray := prog_6_method_1_code
def yX4_init : MethodName := ⟨RX4, "<init>", "()V"⟩
abbrev cX4_in : ByteArray := prog_6_method_3_code
def yX4_in : MethodName := ⟨RX4, "in", "(JJJ)Z"⟩
abbrev cX4_has : ByteArray := prog_6_method_4_code
def yX4_has : MethodName := ⟨RX4, "has", "(II)Z"⟩
abbrev cX4_found : ByteArray := prog_6_method_6_code
def yX4_found : MethodName := ⟨RX4, "found", "(I)I"⟩
abbrev cX4_tell : ByteArray := prog_6_method_7_code
def yX4_tell : MethodName := ⟨RX4, "tell", "(I)I"⟩
abbrev cX4_answer : ByteArray := prog_6_method_8_code
def yX4_answer : MethodName := ⟨RX4, "answer", "(II)I"⟩
abbrev cX4_isRow : ByteArray := prog_6_method_9_code
def yX4_isRow : MethodName := ⟨RX4, "isRow", "(I)Z"⟩
abbrev cX4_isText : ByteArray := prog_6_method_10_code
def yX4_isText : MethodName := ⟨RX4, "isText", "(I)Z"⟩
abbrev cX4_row : ByteArray := prog_6_method_11_code
def yX4_row : MethodName := ⟨RX4, "row", "(II)I"⟩
abbrev cX4_lay : ByteArray := prog_6_method_12_code
def yX4_lay : MethodName := ⟨RX4, "lay", "(III)I"⟩
abbrev cX4_at : ByteArray := prog_6_method_13_code
def yX4_at : MethodName := ⟨RX4, "at", "(II)I"⟩
abbrev cX4_tear : ByteArray := prog_6_method_14_code
def yX4_tear : MethodName := ⟨RX4, "tear", "(I)I"⟩
abbrev cX4_copy : ByteArray := prog_6_method_15_code
def yX4_copy : MethodName := ⟨RX4, "copy", "(IIIII)I"⟩
abbrev cX4_mean : ByteArray := prog_6_method_16_code
def yX4_mean : MethodName := ⟨RX4, "mean", "(I)I"⟩
abbrev cX4_text : ByteArray := prog_6_method_17_code
def yX4_text : MethodName := ⟨RX4, "text", "(II)I"⟩
abbrev cX4_put : ByteArray := prog_6_method_18_code
def yX4_put : MethodName := ⟨RX4, "put", "(III)I"⟩
abbrev cX4_copies : ByteArray := prog_6_method_19_code
def yX4_copies : MethodName := ⟨RX4, "copies", "([II[III)V"⟩
abbrev cX4_forgets : ByteArray := prog_6_method_20_code
def yX4_forgets : MethodName := ⟨RX4, "forgets", "()V"⟩
abbrev cX4_here : ByteArray := prog_6_method_21_code
def yX4_here : MethodName := ⟨RX4, "here", "()I"⟩
abbrev cX4_kindOf : ByteArray := prog_6_method_22_code
def yX4_kindOf : MethodName := ⟨RX4, "kindOf", "(I)I"⟩
abbrev cX4_isFigure : ByteArray := prog_6_method_23_code
def yX4_isFigure : MethodName := ⟨RX4, "isFigure", "()Z"⟩
abbrev cX4_skips : ByteArray := prog_6_method_24_code
def yX4_skips : MethodName := ⟨RX4, "skips", "()V"⟩
abbrev cX4_readsOne : ByteArray := prog_6_method_25_code
def yX4_readsOne : MethodName := ⟨RX4, "readsOne", "()Z"⟩
abbrev cX4_reads : ByteArray := prog_6_method_26_code
def yX4_reads : MethodName := ⟨RX4, "reads", "(I)I"⟩
abbrev cX4_fault : ByteArray := prog_6_method_27_code
def yX4_fault : MethodName := ⟨RX4, "fault", "(I)I"⟩
abbrev cX4_house : ByteArray := prog_6_method_28_code
def yX4_house : MethodName := ⟨RX4, "house", "(I)I"⟩
abbrev cX4_isOne : ByteArray := prog_6_method_29_code
def yX4_isOne : MethodName := ⟨RX4, "isOne", "(I)Z"⟩
abbrev cX4_lesser : ByteArray := prog_6_method_30_code
def yX4_lesser : MethodName := ⟨RX4, "lesser", "(II)I"⟩
abbrev cX4_greater : ByteArray := prog_6_method_31_code
def yX4_greater : MethodName := ⟨RX4, "greater", "(II)I"⟩
abbrev cX4_regardBy : ByteArray := prog_6_method_32_code
def yX4_regardBy : MethodName := ⟨RX4, "regardBy", "(IIII)I"⟩
abbrev cX4_regardAs : ByteArray := prog_6_method_33_code
def yX4_regardAs : MethodName := ⟨RX4, "regardAs", "(II)I"⟩
abbrev cX4_laysRegards : ByteArray := prog_6_method_34_code
def yX4_laysRegards : MethodName := ⟨RX4, "laysRegards", "([I)I"⟩
abbrev cX4_gives : ByteArray := prog_6_method_35_code
def yX4_gives : MethodName := ⟨RX4, "gives", "(I)I"⟩
abbrev cX4_goes : ByteArray := prog_6_method_36_code
def yX4_goes : MethodName := ⟨RX4, "goes", "([I)I"⟩
abbrev cX4_paid : ByteArray := prog_6_method_37_code
def yX4_paid : MethodName := ⟨RX4, "paid", "(I)I"⟩
abbrev cX4_one : ByteArray := prog_6_method_38_code
def yX4_one : MethodName := ⟨RX4, "one", "(II)I"⟩
abbrev cX4_isOf : ByteArray := prog_6_method_39_code
def yX4_isOf : MethodName := ⟨RX4, "isOf", "(II)Z"⟩
abbrev cX4_mark : ByteArray := prog_6_method_40_code
def yX4_mark : MethodName := ⟨RX4, "mark", "(II)I"⟩
abbrev cX4_regard : ByteArray := prog_6_method_41_code
def yX4_regard : MethodName := ⟨RX4, "regard", "(III)I"⟩
abbrev cX4_refuses : ByteArray := prog_6_method_42_code
def yX4_refuses : MethodName := ⟨RX4, "refuses", "(I)I"⟩
abbrev cX4_remember : ByteArray := prog_6_method_43_code
def yX4_remember : MethodName := ⟨RX4, "remember", "()V"⟩
abbrev cX4_quarter : ByteArray := prog_6_method_44_code
def yX4_quarter : MethodName := ⟨RX4, "quarter", "()I"⟩
abbrev cX4_soot : ByteArray := prog_6_method_45_code
def yX4_soot : MethodName := ⟨RX4, "soot", "(I)I"⟩
abbrev cX4_wash : ByteArray := prog_6_method_46_code
def yX4_wash : MethodName := ⟨RX4, "wash", "(I)I"⟩
abbrev cX4_gift : ByteArray := prog_6_method_47_code
def yX4_gift : MethodName := ⟨RX4, "gift", "(III)I"⟩
abbrev cX4_undo : ByteArray := prog_6_method_48_code
def yX4_undo : MethodName := ⟨RX4, "undo", "(I)I"⟩
abbrev cX4_keep : ByteArray := prog_6_method_49_code
def yX4_keep : MethodName := ⟨RX4, "keep", "(I)I"⟩
abbrev cX4_on : ByteArray := prog_6_method_50_code
def yX4_on : MethodName := ⟨RX4, "on", "(I)I"⟩
abbrev cX4_layAside : ByteArray := prog_6_method_51_code
def yX4_layAside : MethodName := ⟨RX4, "layAside", "()V"⟩
abbrev cX4_givesIn : ByteArray := prog_6_method_52_code
def yX4_givesIn : MethodName := ⟨RX4, "givesIn", "(I)I"⟩
abbrev cX4_box : ByteArray := prog_6_method_53_code
def yX4_box : MethodName := ⟨RX4, "box", "()I"⟩
abbrev cX4_later : ByteArray := prog_6_method_54_code
def yX4_later : MethodName := ⟨RX4, "later", "(II)I"⟩
abbrev cX4_settles : ByteArray := prog_6_method_55_code
def yX4_settles : MethodName := ⟨RX4, "settles", "()I"⟩
abbrev cX4_mill : ByteArray := prog_6_method_56_code
def yX4_mill : MethodName := ⟨RX4, "mill", "(I)I"⟩
abbrev cX4_purseBehind : ByteArray := prog_6_method_57_code
def yX4_purseBehind : MethodName := ⟨RX4, "purseBehind", "(II)I"⟩
abbrev cX4_gains : ByteArray := prog_6_method_58_code
def yX4_gains : MethodName := ⟨RX4, "gains", "(I)I"⟩
abbrev cX4_laysSoot : ByteArray := prog_6_method_59_code
def yX4_laysSoot : MethodName := ⟨RX4, "laysSoot", "(I)I"⟩
abbrev cX4_even : ByteArray := prog_6_method_60_code
def yX4_even : MethodName := ⟨RX4, "even", "(IIII)I"⟩
abbrev cX4_changes : ByteArray := prog_6_method_61_code
def yX4_changes : MethodName := ⟨RX4, "changes", "(II)V"⟩
abbrev cX4_change : ByteArray := prog_6_method_62_code
def yX4_change : MethodName := ⟨RX4, "change", "(I)I"⟩
abbrev cX4_refusesPairs : ByteArray := prog_6_method_63_code
def yX4_refusesPairs : MethodName := ⟨RX4, "refusesPairs", "(I)I"⟩
abbrev cX4_isSo : ByteArray := prog_6_method_64_code
def yX4_isSo : MethodName := ⟨RX4, "isSo", "(IIII)Z"⟩
abbrev cX4_looks : ByteArray := prog_6_method_65_code
def yX4_looks : MethodName := ⟨RX4, "looks", "(II)I"⟩
abbrev cX4_kindsOf : ByteArray := prog_6_method_66_code
def yX4_kindsOf : MethodName := ⟨RX4, "kindsOf", "(II)I"⟩
abbrev cX4_kinds : ByteArray := prog_6_method_67_code
def yX4_kinds : MethodName := ⟨RX4, "kinds", "(II)I"⟩
abbrev cX4_test : ByteArray := prog_6_method_68_code
def yX4_test : MethodName := ⟨RX4, "test", "(II)I"⟩
abbrev cX4_weighs : ByteArray := prog_6_method_69_code
def yX4_weighs : MethodName := ⟨RX4, "weighs", "(IZ)I"⟩
abbrev cX4_duel : ByteArray := prog_6_method_70_code
def yX4_duel : MethodName := ⟨RX4, "duel", "(III)I"⟩
abbrev cX4_fraction : ByteArray := prog_6_method_71_code
def yX4_fraction : MethodName := ⟨RX4, "fraction", "(JJ)I"⟩
abbrev cX4_ways : ByteArray := prog_6_method_72_code
def yX4_ways : MethodName := ⟨RX4, "ways", "(III)J"⟩
abbrev cX4_allWays : ByteArray := prog_6_method_73_code
def yX4_allWays : MethodName := ⟨RX4, "allWays", "()J"⟩
abbrev cX4_odds : ByteArray := prog_6_method_74_code
def yX4_odds : MethodName := ⟨RX4, "odds", "(III)I"⟩
abbrev cX4_mid : ByteArray := prog_6_method_75_code
def yX4_mid : MethodName := ⟨RX4, "mid", "(I)I"⟩
abbrev cX4_lot : ByteArray := prog_6_method_76_code
def yX4_lot : MethodName := ⟨RX4, "lot", "(I)V"⟩
abbrev cX4_purses : ByteArray := prog_6_method_77_code
def yX4_purses : MethodName := ⟨RX4, "purses", "()I"⟩
abbrev cX4_lots : ByteArray := prog_6_method_78_code
def yX4_lots : MethodName := ⟨RX4, "lots", "(II)I"⟩
abbrev cX4_asked : ByteArray := prog_6_method_79_code
def yX4_asked : MethodName := ⟨RX4, "asked", "()I"⟩
abbrev cX4_upper : ByteArray := prog_6_method_80_code
def yX4_upper : MethodName := ⟨RX4, "upper", "()J"⟩
abbrev cX4_lower : ByteArray := prog_6_method_81_code
def yX4_lower : MethodName := ⟨RX4, "lower", "()J"⟩
abbrev cX4_there : ByteArray := prog_6_method_82_code
def yX4_there : MethodName := ⟨RX4, "there", "([III)I"⟩
abbrev cX4_ofKind : ByteArray := prog_6_method_83_code
def yX4_ofKind : MethodName := ⟨RX4, "ofKind", "(I)I"⟩
abbrev cX4_sooted : ByteArray := prog_6_method_84_code
def yX4_sooted : MethodName := ⟨RX4, "sooted", "()I"⟩
abbrev cX4_count : ByteArray := prog_6_method_85_code
def yX4_count : MethodName := ⟨RX4, "count", "(I)I"⟩
abbrev cX4_finding : ByteArray := prog_6_method_86_code
def yX4_finding : MethodName := ⟨RX4, "finding", "()I"⟩
abbrev cX4_findings : ByteArray := prog_6_method_87_code
def yX4_findings : MethodName := ⟨RX4, "findings", "(I)I"⟩
abbrev cX4_digest : ByteArray := prog_6_method_88_code
def yX4_digest : MethodName := ⟨RX4, "digest", "()J"⟩
def RJ9 : String := "java/lang/Math"
def TJ9 : u_T := fun k => match k with
  | _ => ("", "", "", false)
def tyJ9 : Nat → FieldType := fun k => match k with
  | _ => .int
abbrev cJ9_abs_0f7a4 : ByteArray := prog_7_method_59_code
def yJ9_abs_0f7a4 : MethodName := ⟨RJ9, "abs", "(I)I"⟩
abbrev cJ9_max_7cf53 : ByteArray := prog_7_method_65_code
def yJ9_max_7cf53 : MethodName := ⟨RJ9, "max", "(II)I"⟩
abbrev cJ9_min_7cf53 : ByteArray := prog_7_method_69_code
def yJ9_min_7cf53 : MethodName := ⟨RJ9, "min", "(II)I"⟩
def RJ10 : String := "java/lang/System"
def TJ10 : u_T := fun k => match k with
  | _ => ("", "", "", false)
def tyJ10 : Nat → FieldType := fun k => match k with
  | _ => .int
def RJ7 : String := "java/util/Arrays"
def TJ7 : u_T := fun k => match k with
  | _ => ("", "", "", false)
def tyJ7 : Nat → FieldType := fun k => match k with
  | _ => .int
abbrev cJ7_fill_53178 : ByteArray := prog_9_method_103_code
def yJ7_fill_53178 : MethodName := ⟨RJ7, "fill", "([II)V"⟩
def RL : String := "FiddleSharesLaw"
abbrev cL_law : ByteArray := code
def yL_law : MethodName := ⟨RL, "law", "([I)Z"⟩
abbrev vwCl : List vw_C := [(RX0, TX0, 7), (RX1, TX1, 10), (RX2, TX2, 3), (RX3, TX3, 11), (RX4, TX4, 27)]
theorem inX0 : ∀ w ∈ wsX00, w ∈ lw_tbl := by decide +kernel
theorem inX1 : ∀ w ∈ wsX10, w ∈ lw_tbl := by decide +kernel
theorem inX2 : ∀ w ∈ wsX20, w ∈ lw_tbl := by decide +kernel
theorem inX3 : ∀ w ∈ wsX30, w ∈ lw_tbl := by decide +kernel
theorem inX4 : ∀ w ∈ wsX40, w ∈ lw_tbl := by decide +kernel
end
section
theorem dJ7_fill_53178_0 : decode cJ7_fill_53178 0 = .ok (.iconst 0, 1) := by decide +kernel
theorem dJ7_fill_53178_1 : decode cJ7_fill_53178 1 = .ok (.istore_n 2, 1) := by decide +kernel
theorem dJ7_fill_53178_2 : decode cJ7_fill_53178 2 = .ok (.aload_n 0, 1) := by decide +kernel
theorem dJ7_fill_53178_3 : decode cJ7_fill_53178 3 = .ok (.arraylength, 1) := by decide +kernel
theorem dJ7_fill_53178_4 : decode cJ7_fill_53178 4 = .ok (.istore_n 3, 1) := by decide +kernel
theorem dJ7_fill_53178_5 : decode cJ7_fill_53178 5 = .ok (.iload_n 2, 1) := by decide +kernel
theorem dJ7_fill_53178_6 : decode cJ7_fill_53178 6 = .ok (.iload_n 3, 1) := by decide +kernel
theorem dJ7_fill_53178_7 : decode cJ7_fill_53178 7 = .ok (.if_icmp .ge 13, 3) := by decide +kernel
theorem dJ7_fill_53178_10 : decode cJ7_fill_53178 10 = .ok (.aload_n 0, 1) := by decide +kernel
theorem dJ7_fill_53178_11 : decode cJ7_fill_53178 11 = .ok (.iload_n 2, 1) := by decide +kernel
theorem dJ7_fill_53178_12 : decode cJ7_fill_53178 12 = .ok (.iload_n 1, 1) := by decide +kernel
theorem dJ7_fill_53178_13 : decode cJ7_fill_53178 13 = .ok (.iastore, 1) := by decide +kernel
theorem dJ7_fill_53178_14 : decode cJ7_fill_53178 14 = .ok (.iinc 2 1, 3) := by decide +kernel
theorem dJ7_fill_53178_17 : decode cJ7_fill_53178 17 = .ok (.goto (-12), 3) := by decide +kernel
theorem dJ7_fill_53178_20 : decode cJ7_fill_53178 20 = .ok (.return_, 1) := by decide +kernel
end
section
theorem dJ9_abs_0f7a4_0 : decode cJ9_abs_0f7a4 0 = .ok (.iload_n 0, 1) := by decide +kernel
theorem dJ9_abs_0f7a4_1 : decode cJ9_abs_0f7a4 1 = .ok (.ifCond .ge 8, 3) := by decide +kernel
theorem dJ9_abs_0f7a4_4 : decode cJ9_abs_0f7a4 4 = .ok (.iload_n 0, 1) := by decide +kernel
theorem dJ9_abs_0f7a4_5 : decode cJ9_abs_0f7a4 5 = .ok (.ineg, 1) := by decide +kernel
theorem dJ9_abs_0f7a4_6 : decode cJ9_abs_0f7a4 6 = .ok (.goto 4, 3) := by decide +kernel
theorem dJ9_abs_0f7a4_9 : decode cJ9_abs_0f7a4 9 = .ok (.iload_n 0, 1) := by decide +kernel
theorem dJ9_abs_0f7a4_10 : decode cJ9_abs_0f7a4 10 = .ok (.ireturn, 1) := by decide +kernel
theorem dJ9_max_7cf53_0 : decode cJ9_max_7cf53 0 = .ok (.iload_n 0, 1) := by decide +kernel
theorem dJ9_max_7cf53_1 : decode cJ9_max_7cf53 1 = .ok (.iload_n 1, 1) := by decide +kernel
theorem dJ9_max_7cf53_2 : decode cJ9_max_7cf53 2 = .ok (.if_icmp .lt 7, 3) := by decide +kernel
theorem dJ9_max_7cf53_5 : decode cJ9_max_7cf53 5 = .ok (.iload_n 0, 1) := by decide +kernel
theorem dJ9_max_7cf53_6 : decode cJ9_max_7cf53 6 = .ok (.goto 4, 3) := by decide +kernel
theorem dJ9_max_7cf53_9 : decode cJ9_max_7cf53 9 = .ok (.iload_n 1, 1) := by decide +kernel
theorem dJ9_max_7cf53_10 : decode cJ9_max_7cf53 10 = .ok (.ireturn, 1) := by decide +kernel
theorem dJ9_min_7cf53_0 : decode cJ9_min_7cf53 0 = .ok (.iload_n 0, 1) := by decide +kernel
theorem dJ9_min_7cf53_1 : decode cJ9_min_7cf53 1 = .ok (.iload_n 1, 1) := by decide +kernel
theorem dJ9_min_7cf53_2 : decode cJ9_min_7cf53 2 = .ok (.if_icmp .gt 7, 3) := by decide +kernel
theorem dJ9_min_7cf53_5 : decode cJ9_min_7cf53 5 = .ok (.iload_n 0, 1) := by decide +kernel
theorem dJ9_min_7cf53_6 : decode cJ9_min_7cf53 6 = .ok (.goto 4, 3) := by decide +kernel
theorem dJ9_min_7cf53_9 : decode cJ9_min_7cf53 9 = .ok (.iload_n 1, 1) := by decide +kernel
theorem dJ9_min_7cf53_10 : decode cJ9_min_7cf53 10 = .ok (.ireturn, 1) := by decide +kernel
end
section
theorem dL_law_0 : decode cL_law 0 = .ok (.new 7, 3) := by decide +kernel
theorem dL_law_3 : decode cL_law 3 = .ok (.dup, 1) := by decide +kernel
theorem dL_law_4 : decode cL_law 4 = .ok (.invokespecial 9, 3) := by decide +kernel
theorem dL_law_7 : decode cL_law 7 = .ok (.astore_n 1, 1) := by decide +kernel
theorem dL_law_8 : decode cL_law 8 = .ok (.new 10, 3) := by decide +kernel
theorem dL_law_11 : decode cL_law 11 = .ok (.dup, 1) := by decide +kernel
theorem dL_law_12 : decode cL_law 12 = .ok (.invokespecial 12, 3) := by decide +kernel
theorem dL_law_15 : decode cL_law 15 = .ok (.astore_n 2, 1) := by decide +kernel
theorem dL_law_16 : decode cL_law 16 = .ok (.iconst 0, 1) := by decide +kernel
theorem dL_law_17 : decode cL_law 17 = .ok (.istore_n 3, 1) := by decide +kernel
theorem dL_law_18 : decode cL_law 18 = .ok (.iload_n 3, 1) := by decide +kernel
theorem dL_law_19 : decode cL_law 19 = .ok (.aload_n 0, 1) := by decide +kernel
theorem dL_law_20 : decode cL_law 20 = .ok (.arraylength, 1) := by decide +kernel
theorem dL_law_21 : decode cL_law 21 = .ok (.bipush 6, 2) := by decide +kernel
theorem dL_law_23 : decode cL_law 23 = .ok (.isub, 1) := by decide +kernel
theorem dL_law_24 : decode cL_law 24 = .ok (.if_icmp .gt 1350, 3) := by decide +kernel
theorem dL_law_27 : decode cL_law 27 = .ok (.aload_n 0, 1) := by decide +kernel
theorem dL_law_28 : decode cL_law 28 = .ok (.iload_n 3, 1) := by decide +kernel
theorem dL_law_29 : decode cL_law 29 = .ok (.iaload, 1) := by decide +kernel
theorem dL_law_30 : decode cL_law 30 = .ok (.bipush 63, 2) := by decide +kernel
theorem dL_law_32 : decode cL_law 32 = .ok (.iand, 1) := by decide +kernel
theorem dL_law_33 : decode cL_law 33 = .ok (.tableswitch 1335 0 40 #[179, 212, 255, 288, 311, 374, 397, 430, 473, 496, 519, 552, 585, 628, 641, 664, 687, 730, 753, 776, 799, 812, 845, 858, 881, 904, 957, 980, 1013, 1046, 1079, 1122, 1165, 1188, 1221, 1234, 1248, 1262, 1285, 1298, 1321], 179) := by decide +kernel
theorem dL_law_212 : decode cL_law 212 = .ok (.aload_n 1, 1) := by decide +kernel
theorem dL_law_213 : decode cL_law 213 = .ok (.aload_n 0, 1) := by decide +kernel
theorem dL_law_214 : decode cL_law 214 = .ok (.iload_n 3, 1) := by decide +kernel
theorem dL_law_215 : decode cL_law 215 = .ok (.iconst 1, 1) := by decide +kernel
theorem dL_law_216 : decode cL_law 216 = .ok (.iadd, 1) := by decide +kernel
theorem dL_law_217 : decode cL_law 217 = .ok (.iaload, 1) := by decide +kernel
theorem dL_law_218 : decode cL_law 218 = .ok (.aload_n 0, 1) := by decide +kernel
theorem dL_law_219 : decode cL_law 219 = .ok (.iload_n 3, 1) := by decide +kernel
theorem dL_law_220 : decode cL_law 220 = .ok (.iconst 2, 1) := by decide +kernel
theorem dL_law_221 : decode cL_law 221 = .ok (.iadd, 1) := by decide +kernel
theorem dL_law_222 : decode cL_law 222 = .ok (.iaload, 1) := by decide +kernel
theorem dL_law_223 : decode cL_law 223 = .ok (.invokevirtual 13, 3) := by decide +kernel
theorem dL_law_226 : decode cL_law 226 = .ok (.aload_n 2, 1) := by decide +kernel
theorem dL_law_227 : decode cL_law 227 = .ok (.aload_n 0, 1) := by decide +kernel
theorem dL_law_228 : decode cL_law 228 = .ok (.iload_n 3, 1) := by decide +kernel
theorem dL_law_229 : decode cL_law 229 = .ok (.iconst 1, 1) := by decide +kernel
theorem dL_law_230 : decode cL_law 230 = .ok (.iadd, 1) := by decide +kernel
theorem dL_law_231 : decode cL_law 231 = .ok (.iaload, 1) := by decide +kernel
theorem dL_law_232 : decode cL_law 232 = .ok (.aload_n 0, 1) := by decide +kernel
theorem dL_law_233 : decode cL_law 233 = .ok (.iload_n 3, 1) := by decide +kernel
theorem dL_law_234 : decode cL_law 234 = .ok (.iconst 2, 1) := by decide +kernel
theorem dL_law_235 : decode cL_law 235 = .ok (.iadd, 1) := by decide +kernel
theorem dL_law_236 : decode cL_law 236 = .ok (.iaload, 1) := by decide +kernel
theorem dL_law_237 : decode cL_law 237 = .ok (.invokevirtual 17, 3) := by decide +kernel
theorem dL_law_240 : decode cL_law 240 = .ok (.if_icmp .eq 1128, 3) := by decide +kernel
theorem dL_law_243 : decode cL_law 243 = .ok (.iconst 0, 1) := by decide +kernel
theorem dL_law_244 : decode cL_law 244 = .ok (.ireturn, 1) := by decide +kernel
theorem dL_law_245 : decode cL_law 245 = .ok (.aload_n 1, 1) := by decide +kernel
theorem dL_law_246 : decode cL_law 246 = .ok (.aload_n 0, 1) := by decide +kernel
theorem dL_law_247 : decode cL_law 247 = .ok (.iload_n 3, 1) := by decide +kernel
theorem dL_law_248 : decode cL_law 248 = .ok (.iconst 1, 1) := by decide +kernel
theorem dL_law_249 : decode cL_law 249 = .ok (.iadd, 1) := by decide +kernel
theorem dL_law_250 : decode cL_law 250 = .ok (.iaload, 1) := by decide +kernel
theorem dL_law_251 : decode cL_law 251 = .ok (.aload_n 0, 1) := by decide +kernel
theorem dL_law_252 : decode cL_law 252 = .ok (.iload_n 3, 1) := by decide +kernel
theorem dL_law_253 : decode cL_law 253 = .ok (.iconst 2, 1) := by decide +kernel
theorem dL_law_254 : decode cL_law 254 = .ok (.iadd, 1) := by decide +kernel
theorem dL_law_255 : decode cL_law 255 = .ok (.iaload, 1) := by decide +kernel
theorem dL_law_256 : decode cL_law 256 = .ok (.aload_n 0, 1) := by decide +kernel
theorem dL_law_257 : decode cL_law 257 = .ok (.iload_n 3, 1) := by decide +kernel
theorem dL_law_258 : decode cL_law 258 = .ok (.iconst 3, 1) := by decide +kernel
theorem dL_law_259 : decode cL_law 259 = .ok (.iadd, 1) := by decide +kernel
theorem dL_law_260 : decode cL_law 260 = .ok (.iaload, 1) := by decide +kernel
theorem dL_law_261 : decode cL_law 261 = .ok (.invokevirtual 18, 3) := by decide +kernel
theorem dL_law_264 : decode cL_law 264 = .ok (.aload_n 2, 1) := by decide +kernel
theorem dL_law_265 : decode cL_law 265 = .ok (.aload_n 0, 1) := by decide +kernel
theorem dL_law_266 : decode cL_law 266 = .ok (.iload_n 3, 1) := by decide +kernel
theorem dL_law_267 : decode cL_law 267 = .ok (.iconst 1, 1) := by decide +kernel
theorem dL_law_268 : decode cL_law 268 = .ok (.iadd, 1) := by decide +kernel
theorem dL_law_269 : decode cL_law 269 = .ok (.iaload, 1) := by decide +kernel
theorem dL_law_270 : decode cL_law 270 = .ok (.aload_n 0, 1) := by decide +kernel
theorem dL_law_271 : decode cL_law 271 = .ok (.iload_n 3, 1) := by decide +kernel
theorem dL_law_272 : decode cL_law 272 = .ok (.iconst 2, 1) := by decide +kernel
theorem dL_law_273 : decode cL_law 273 = .ok (.iadd, 1) := by decide +kernel
theorem dL_law_274 : decode cL_law 274 = .ok (.iaload, 1) := by decide +kernel
theorem dL_law_275 : decode cL_law 275 = .ok (.aload_n 0, 1) := by decide +kernel
theorem dL_law_276 : decode cL_law 276 = .ok (.iload_n 3, 1) := by decide +kernel
theorem dL_law_277 : decode cL_law 277 = .ok (.iconst 3, 1) := by decide +kernel
theorem dL_law_278 : decode cL_law 278 = .ok (.iadd, 1) := by decide +kernel
theorem dL_law_279 : decode cL_law 279 = .ok (.iaload, 1) := by decide +kernel
theorem dL_law_280 : decode cL_law 280 = .ok (.invokevirtual 22, 3) := by decide +kernel
theorem dL_law_283 : decode cL_law 283 = .ok (.if_icmp .eq 1085, 3) := by decide +kernel
theorem dL_law_286 : decode cL_law 286 = .ok (.iconst 0, 1) := by decide +kernel
theorem dL_law_287 : decode cL_law 287 = .ok (.ireturn, 1) := by decide +kernel
theorem dL_law_288 : decode cL_law 288 = .ok (.aload_n 1, 1) := by decide +kernel
theorem dL_law_289 : decode cL_law 289 = .ok (.aload_n 0, 1) := by decide +kernel
theorem dL_law_290 : decode cL_law 290 = .ok (.iload_n 3, 1) := by decide +kernel
theorem dL_law_291 : decode cL_law 291 = .ok (.iconst 1, 1) := by decide +kernel
theorem dL_law_292 : decode cL_law 292 = .ok (.iadd, 1) := by decide +kernel
theorem dL_law_293 : decode cL_law 293 = .ok (.iaload, 1) := by decide +kernel
theorem dL_law_294 : decode cL_law 294 = .ok (.aload_n 0, 1) := by decide +kernel
theorem dL_law_295 : decode cL_law 295 = .ok (.iload_n 3, 1) := by decide +kernel
theorem dL_law_296 : decode cL_law 296 = .ok (.iconst 2, 1) := by decide +kernel
theorem dL_law_297 : decode cL_law 297 = .ok (.iadd, 1) := by decide +kernel
theorem dL_law_298 : decode cL_law 298 = .ok (.iaload, 1) := by decide +kernel
theorem dL_law_299 : decode cL_law 299 = .ok (.invokevirtual 23, 3) := by decide +kernel
theorem dL_law_302 : decode cL_law 302 = .ok (.aload_n 2, 1) := by decide +kernel
theorem dL_law_303 : decode cL_law 303 = .ok (.aload_n 0, 1) := by decide +kernel
theorem dL_law_304 : decode cL_law 304 = .ok (.iload_n 3, 1) := by decide +kernel
theorem dL_law_305 : decode cL_law 305 = .ok (.iconst 1, 1) := by decide +kernel
theorem dL_law_306 : decode cL_law 306 = .ok (.iadd, 1) := by decide +kernel
theorem dL_law_307 : decode cL_law 307 = .ok (.iaload, 1) := by decide +kernel
theorem dL_law_308 : decode cL_law 308 = .ok (.aload_n 0, 1) := by decide +kernel
theorem dL_law_309 : decode cL_law 309 = .ok (.iload_n 3, 1) := by decide +kernel
theorem dL_law_310 : decode cL_law 310 = .ok (.iconst 2, 1) := by decide +kernel
theorem dL_law_311 : decode cL_law 311 = .ok (.iadd, 1) := by decide +kernel
theorem dL_law_312 : decode cL_law 312 = .ok (.iaload, 1) := by decide +kernel
theorem dL_law_313 : decode cL_law 313 = .ok (.invokevirtual 26, 3) := by decide +kernel
theorem dL_law_316 : decode cL_law 316 = .ok (.if_icmp .eq 1052, 3) := by decide +kernel
theorem dL_law_319 : decode cL_law 319 = .ok (.iconst 0, 1) := by decide +kernel
theorem dL_law_320 : decode cL_law 320 = .ok (.ireturn, 1) := by decide +kernel
theorem dL_law_321 : decode cL_law 321 = .ok (.aload_n 1, 1) := by decide +kernel
theorem dL_law_322 : decode cL_law 322 = .ok (.aload_n 0, 1) := by decide +kernel
theorem dL_law_323 : decode cL_law 323 = .ok (.iload_n 3, 1) := by decide +kernel
theorem dL_law_324 : decode cL_law 324 = .ok (.iconst 1, 1) := by decide +kernel
theorem dL_law_325 : decode cL_law 325 = .ok (.iadd, 1) := by decide +kernel
theorem dL_law_326 : decode cL_law 326 = .ok (.iaload, 1) := by decide +kernel
theorem dL_law_327 : decode cL_law 327 = .ok (.invokevirtual 27, 3) := by decide +kernel
theorem dL_law_330 : decode cL_law 330 = .ok (.aload_n 2, 1) := by decide +kernel
theorem dL_law_331 : decode cL_law 331 = .ok (.aload_n 0, 1) := by decide +kernel
theorem dL_law_332 : decode cL_law 332 = .ok (.iload_n 3, 1) := by decide +kernel
theorem dL_law_333 : decode cL_law 333 = .ok (.iconst 1, 1) := by decide +kernel
theorem dL_law_334 : decode cL_law 334 = .ok (.iadd, 1) := by decide +kernel
theorem dL_law_335 : decode cL_law 335 = .ok (.iaload, 1) := by decide +kernel
theorem dL_law_336 : decode cL_law 336 = .ok (.invokevirtual 31, 3) := by decide +kernel
theorem dL_law_339 : decode cL_law 339 = .ok (.if_icmp .eq 1029, 3) := by decide +kernel
theorem dL_law_342 : decode cL_law 342 = .ok (.iconst 0, 1) := by decide +kernel
theorem dL_law_343 : decode cL_law 343 = .ok (.ireturn, 1) := by decide +kernel
theorem dL_law_344 : decode cL_law 344 = .ok (.aload_n 1, 1) := by decide +kernel
theorem dL_law_345 : decode cL_law 345 = .ok (.aload_n 0, 1) := by decide +kernel
theorem dL_law_346 : decode cL_law 346 = .ok (.iload_n 3, 1) := by decide +kernel
theorem dL_law_347 : decode cL_law 347 = .ok (.iconst 1, 1) := by decide +kernel
theorem dL_law_348 : decode cL_law 348 = .ok (.iadd, 1) := by decide +kernel
theorem dL_law_349 : decode cL_law 349 = .ok (.iaload, 1) := by decide +kernel
theorem dL_law_350 : decode cL_law 350 = .ok (.aload_n 0, 1) := by decide +kernel
theorem dL_law_351 : decode cL_law 351 = .ok (.iload_n 3, 1) := by decide +kernel
theorem dL_law_352 : decode cL_law 352 = .ok (.iconst 2, 1) := by decide +kernel
theorem dL_law_353 : decode cL_law 353 = .ok (.iadd, 1) := by decide +kernel
theorem dL_law_354 : decode cL_law 354 = .ok (.iaload, 1) := by decide +kernel
theorem dL_law_355 : decode cL_law 355 = .ok (.aload_n 0, 1) := by decide +kernel
theorem dL_law_356 : decode cL_law 356 = .ok (.iload_n 3, 1) := by decide +kernel
theorem dL_law_357 : decode cL_law 357 = .ok (.iconst 3, 1) := by decide +kernel
theorem dL_law_358 : decode cL_law 358 = .ok (.iadd, 1) := by decide +kernel
theorem dL_law_359 : decode cL_law 359 = .ok (.iaload, 1) := by decide +kernel
theorem dL_law_360 : decode cL_law 360 = .ok (.aload_n 0, 1) := by decide +kernel
theorem dL_law_361 : decode cL_law 361 = .ok (.iload_n 3, 1) := by decide +kernel
theorem dL_law_362 : decode cL_law 362 = .ok (.iconst 4, 1) := by decide +kernel
theorem dL_law_363 : decode cL_law 363 = .ok (.iadd, 1) := by decide +kernel
theorem dL_law_364 : decode cL_law 364 = .ok (.iaload, 1) := by decide +kernel
theorem dL_law_365 : decode cL_law 365 = .ok (.aload_n 0, 1) := by decide +kernel
theorem dL_law_366 : decode cL_law 366 = .ok (.iload_n 3, 1) := by decide +kernel
theorem dL_law_367 : decode cL_law 367 = .ok (.iconst 5, 1) := by decide +kernel
theorem dL_law_368 : decode cL_law 368 = .ok (.iadd, 1) := by decide +kernel
theorem dL_law_369 : decode cL_law 369 = .ok (.iaload, 1) := by decide +kernel
theorem dL_law_370 : decode cL_law 370 = .ok (.invokevirtual 32, 3) := by decide +kernel
theorem dL_law_373 : decode cL_law 373 = .ok (.aload_n 2, 1) := by decide +kernel
theorem dL_law_374 : decode cL_law 374 = .ok (.aload_n 0, 1) := by decide +kernel
theorem dL_law_375 : decode cL_law 375 = .ok (.iload_n 3, 1) := by decide +kernel
theorem dL_law_376 : decode cL_law 376 = .ok (.iconst 1, 1) := by decide +kernel
theorem dL_law_377 : decode cL_law 377 = .ok (.iadd, 1) := by decide +kernel
theorem dL_law_378 : decode cL_law 378 = .ok (.iaload, 1) := by decide +kernel
theorem dL_law_379 : decode cL_law 379 = .ok (.aload_n 0, 1) := by decide +kernel
theorem dL_law_380 : decode cL_law 380 = .ok (.iload_n 3, 1) := by decide +kernel
theorem dL_law_381 : decode cL_law 381 = .ok (.iconst 2, 1) := by decide +kernel
theorem dL_law_382 : decode cL_law 382 = .ok (.iadd, 1) := by decide +kernel
theorem dL_law_383 : decode cL_law 383 = .ok (.iaload, 1) := by decide +kernel
theorem dL_law_384 : decode cL_law 384 = .ok (.aload_n 0, 1) := by decide +kernel
theorem dL_law_385 : decode cL_law 385 = .ok (.iload_n 3, 1) := by decide +kernel
theorem dL_law_386 : decode cL_law 386 = .ok (.iconst 3, 1) := by decide +kernel
theorem dL_law_387 : decode cL_law 387 = .ok (.iadd, 1) := by decide +kernel
theorem dL_law_388 : decode cL_law 388 = .ok (.iaload, 1) := by decide +kernel
theorem dL_law_389 : decode cL_law 389 = .ok (.aload_n 0, 1) := by decide +kernel
theorem dL_law_390 : decode cL_law 390 = .ok (.iload_n 3, 1) := by decide +kernel
theorem dL_law_391 : decode cL_law 391 = .ok (.iconst 4, 1) := by decide +kernel
theorem dL_law_392 : decode cL_law 392 = .ok (.iadd, 1) := by decide +kernel
theorem dL_law_393 : decode cL_law 393 = .ok (.iaload, 1) := by decide +kernel
theorem dL_law_394 : decode cL_law 394 = .ok (.aload_n 0, 1) := by decide +kernel
theorem dL_law_395 : decode cL_law 395 = .ok (.iload_n 3, 1) := by decide +kernel
theorem dL_law_396 : decode cL_law 396 = .ok (.iconst 5, 1) := by decide +kernel
theorem dL_law_397 : decode cL_law 397 = .ok (.iadd, 1) := by decide +kernel
theorem dL_law_398 : decode cL_law 398 = .ok (.iaload, 1) := by decide +kernel
theorem dL_law_399 : decode cL_law 399 = .ok (.invokevirtual 36, 3) := by decide +kernel
theorem dL_law_402 : decode cL_law 402 = .ok (.if_icmp .eq 966, 3) := by decide +kernel
theorem dL_law_405 : decode cL_law 405 = .ok (.iconst 0, 1) := by decide +kernel
theorem dL_law_406 : decode cL_law 406 = .ok (.ireturn, 1) := by decide +kernel
theorem dL_law_407 : decode cL_law 407 = .ok (.aload_n 1, 1) := by decide +kernel
theorem dL_law_408 : decode cL_law 408 = .ok (.aload_n 0, 1) := by decide +kernel
theorem dL_law_409 : decode cL_law 409 = .ok (.iload_n 3, 1) := by decide +kernel
theorem dL_law_410 : decode cL_law 410 = .ok (.iconst 1, 1) := by decide +kernel
theorem dL_law_411 : decode cL_law 411 = .ok (.iadd, 1) := by decide +kernel
theorem dL_law_412 : decode cL_law 412 = .ok (.iaload, 1) := by decide +kernel
theorem dL_law_413 : decode cL_law 413 = .ok (.invokevirtual 37, 3) := by decide +kernel
theorem dL_law_416 : decode cL_law 416 = .ok (.aload_n 2, 1) := by decide +kernel
theorem dL_law_417 : decode cL_law 417 = .ok (.aload_n 0, 1) := by decide +kernel
theorem dL_law_418 : decode cL_law 418 = .ok (.iload_n 3, 1) := by decide +kernel
theorem dL_law_419 : decode cL_law 419 = .ok (.iconst 1, 1) := by decide +kernel
theorem dL_law_420 : decode cL_law 420 = .ok (.iadd, 1) := by decide +kernel
theorem dL_law_421 : decode cL_law 421 = .ok (.iaload, 1) := by decide +kernel
theorem dL_law_422 : decode cL_law 422 = .ok (.invokevirtual 40, 3) := by decide +kernel
theorem dL_law_425 : decode cL_law 425 = .ok (.if_icmp .eq 943, 3) := by decide +kernel
theorem dL_law_428 : decode cL_law 428 = .ok (.iconst 0, 1) := by decide +kernel
theorem dL_law_429 : decode cL_law 429 = .ok (.ireturn, 1) := by decide +kernel
theorem dL_law_430 : decode cL_law 430 = .ok (.aload_n 1, 1) := by decide +kernel
theorem dL_law_431 : decode cL_law 431 = .ok (.aload_n 0, 1) := by decide +kernel
theorem dL_law_432 : decode cL_law 432 = .ok (.iload_n 3, 1) := by decide +kernel
theorem dL_law_433 : decode cL_law 433 = .ok (.iconst 1, 1) := by decide +kernel
theorem dL_law_434 : decode cL_law 434 = .ok (.iadd, 1) := by decide +kernel
theorem dL_law_435 : decode cL_law 435 = .ok (.iaload, 1) := by decide +kernel
theorem dL_law_436 : decode cL_law 436 = .ok (.aload_n 0, 1) := by decide +kernel
theorem dL_law_437 : decode cL_law 437 = .ok (.iload_n 3, 1) := by decide +kernel
theorem dL_law_438 : decode cL_law 438 = .ok (.iconst 2, 1) := by decide +kernel
theorem dL_law_439 : decode cL_law 439 = .ok (.iadd, 1) := by decide +kernel
theorem dL_law_440 : decode cL_law 440 = .ok (.iaload, 1) := by decide +kernel
theorem dL_law_441 : decode cL_law 441 = .ok (.invokevirtual 41, 3) := by decide +kernel
theorem dL_law_444 : decode cL_law 444 = .ok (.aload_n 2, 1) := by decide +kernel
theorem dL_law_445 : decode cL_law 445 = .ok (.aload_n 0, 1) := by decide +kernel
theorem dL_law_446 : decode cL_law 446 = .ok (.iload_n 3, 1) := by decide +kernel
theorem dL_law_447 : decode cL_law 447 = .ok (.iconst 1, 1) := by decide +kernel
theorem dL_law_448 : decode cL_law 448 = .ok (.iadd, 1) := by decide +kernel
theorem dL_law_449 : decode cL_law 449 = .ok (.iaload, 1) := by decide +kernel
theorem dL_law_450 : decode cL_law 450 = .ok (.aload_n 0, 1) := by decide +kernel
theorem dL_law_451 : decode cL_law 451 = .ok (.iload_n 3, 1) := by decide +kernel
theorem dL_law_452 : decode cL_law 452 = .ok (.iconst 2, 1) := by decide +kernel
theorem dL_law_453 : decode cL_law 453 = .ok (.iadd, 1) := by decide +kernel
theorem dL_law_454 : decode cL_law 454 = .ok (.iaload, 1) := by decide +kernel
theorem dL_law_455 : decode cL_law 455 = .ok (.invokevirtual 44, 3) := by decide +kernel
theorem dL_law_458 : decode cL_law 458 = .ok (.if_icmp .eq 910, 3) := by decide +kernel
theorem dL_law_461 : decode cL_law 461 = .ok (.iconst 0, 1) := by decide +kernel
theorem dL_law_462 : decode cL_law 462 = .ok (.ireturn, 1) := by decide +kernel
theorem dL_law_463 : decode cL_law 463 = .ok (.aload_n 1, 1) := by decide +kernel
theorem dL_law_464 : decode cL_law 464 = .ok (.aload_n 0, 1) := by decide +kernel
theorem dL_law_465 : decode cL_law 465 = .ok (.iload_n 3, 1) := by decide +kernel
theorem dL_law_466 : decode cL_law 466 = .ok (.iconst 1, 1) := by decide +kernel
theorem dL_law_467 : decode cL_law 467 = .ok (.iadd, 1) := by decide +kernel
theorem dL_law_468 : decode cL_law 468 = .ok (.iaload, 1) := by decide +kernel
theorem dL_law_469 : decode cL_law 469 = .ok (.aload_n 0, 1) := by decide +kernel
theorem dL_law_470 : decode cL_law 470 = .ok (.iload_n 3, 1) := by decide +kernel
theorem dL_law_471 : decode cL_law 471 = .ok (.iconst 2, 1) := by decide +kernel
theorem dL_law_472 : decode cL_law 472 = .ok (.iadd, 1) := by decide +kernel
theorem dL_law_473 : decode cL_law 473 = .ok (.iaload, 1) := by decide +kernel
theorem dL_law_474 : decode cL_law 474 = .ok (.aload_n 0, 1) := by decide +kernel
theorem dL_law_475 : decode cL_law 475 = .ok (.iload_n 3, 1) := by decide +kernel
theorem dL_law_476 : decode cL_law 476 = .ok (.iconst 3, 1) := by decide +kernel
theorem dL_law_477 : decode cL_law 477 = .ok (.iadd, 1) := by decide +kernel
theorem dL_law_478 : decode cL_law 478 = .ok (.iaload, 1) := by decide +kernel
theorem dL_law_479 : decode cL_law 479 = .ok (.invokevirtual 45, 3) := by decide +kernel
theorem dL_law_482 : decode cL_law 482 = .ok (.aload_n 2, 1) := by decide +kernel
theorem dL_law_483 : decode cL_law 483 = .ok (.aload_n 0, 1) := by decide +kernel
theorem dL_law_484 : decode cL_law 484 = .ok (.iload_n 3, 1) := by decide +kernel
theorem dL_law_485 : decode cL_law 485 = .ok (.iconst 1, 1) := by decide +kernel
theorem dL_law_486 : decode cL_law 486 = .ok (.iadd, 1) := by decide +kernel
theorem dL_law_487 : decode cL_law 487 = .ok (.iaload, 1) := by decide +kernel
theorem dL_law_488 : decode cL_law 488 = .ok (.aload_n 0, 1) := by decide +kernel
theorem dL_law_489 : decode cL_law 489 = .ok (.iload_n 3, 1) := by decide +kernel
theorem dL_law_490 : decode cL_law 490 = .ok (.iconst 2, 1) := by decide +kernel
theorem dL_law_491 : decode cL_law 491 = .ok (.iadd, 1) := by decide +kernel
theorem dL_law_492 : decode cL_law 492 = .ok (.iaload, 1) := by decide +kernel
theorem dL_law_493 : decode cL_law 493 = .ok (.aload_n 0, 1) := by decide +kernel
theorem dL_law_494 : decode cL_law 494 = .ok (.iload_n 3, 1) := by decide +kernel
theorem dL_law_495 : decode cL_law 495 = .ok (.iconst 3, 1) := by decide +kernel
theorem dL_law_496 : decode cL_law 496 = .ok (.iadd, 1) := by decide +kernel
theorem dL_law_497 : decode cL_law 497 = .ok (.iaload, 1) := by decide +kernel
theorem dL_law_498 : decode cL_law 498 = .ok (.invokevirtual 48, 3) := by decide +kernel
theorem dL_law_501 : decode cL_law 501 = .ok (.if_icmp .eq 867, 3) := by decide +kernel
theorem dL_law_504 : decode cL_law 504 = .ok (.iconst 0, 1) := by decide +kernel
theorem dL_law_505 : decode cL_law 505 = .ok (.ireturn, 1) := by decide +kernel
theorem dL_law_506 : decode cL_law 506 = .ok (.aload_n 1, 1) := by decide +kernel
theorem dL_law_507 : decode cL_law 507 = .ok (.aload_n 0, 1) := by decide +kernel
theorem dL_law_508 : decode cL_law 508 = .ok (.iload_n 3, 1) := by decide +kernel
theorem dL_law_509 : decode cL_law 509 = .ok (.iconst 1, 1) := by decide +kernel
theorem dL_law_510 : decode cL_law 510 = .ok (.iadd, 1) := by decide +kernel
theorem dL_law_511 : decode cL_law 511 = .ok (.iaload, 1) := by decide +kernel
theorem dL_law_512 : decode cL_law 512 = .ok (.invokevirtual 49, 3) := by decide +kernel
theorem dL_law_515 : decode cL_law 515 = .ok (.aload_n 2, 1) := by decide +kernel
theorem dL_law_516 : decode cL_law 516 = .ok (.aload_n 0, 1) := by decide +kernel
theorem dL_law_517 : decode cL_law 517 = .ok (.iload_n 3, 1) := by decide +kernel
theorem dL_law_518 : decode cL_law 518 = .ok (.iconst 1, 1) := by decide +kernel
theorem dL_law_519 : decode cL_law 519 = .ok (.iadd, 1) := by decide +kernel
theorem dL_law_520 : decode cL_law 520 = .ok (.iaload, 1) := by decide +kernel
theorem dL_law_521 : decode cL_law 521 = .ok (.invokevirtual 52, 3) := by decide +kernel
theorem dL_law_524 : decode cL_law 524 = .ok (.if_icmp .eq 844, 3) := by decide +kernel
theorem dL_law_527 : decode cL_law 527 = .ok (.iconst 0, 1) := by decide +kernel
theorem dL_law_528 : decode cL_law 528 = .ok (.ireturn, 1) := by decide +kernel
theorem dL_law_529 : decode cL_law 529 = .ok (.aload_n 1, 1) := by decide +kernel
theorem dL_law_530 : decode cL_law 530 = .ok (.aload_n 0, 1) := by decide +kernel
theorem dL_law_531 : decode cL_law 531 = .ok (.iload_n 3, 1) := by decide +kernel
theorem dL_law_532 : decode cL_law 532 = .ok (.iconst 1, 1) := by decide +kernel
theorem dL_law_533 : decode cL_law 533 = .ok (.iadd, 1) := by decide +kernel
theorem dL_law_534 : decode cL_law 534 = .ok (.iaload, 1) := by decide +kernel
theorem dL_law_535 : decode cL_law 535 = .ok (.invokevirtual 53, 3) := by decide +kernel
theorem dL_law_538 : decode cL_law 538 = .ok (.aload_n 2, 1) := by decide +kernel
theorem dL_law_539 : decode cL_law 539 = .ok (.aload_n 0, 1) := by decide +kernel
theorem dL_law_540 : decode cL_law 540 = .ok (.iload_n 3, 1) := by decide +kernel
theorem dL_law_541 : decode cL_law 541 = .ok (.iconst 1, 1) := by decide +kernel
theorem dL_law_542 : decode cL_law 542 = .ok (.iadd, 1) := by decide +kernel
theorem dL_law_543 : decode cL_law 543 = .ok (.iaload, 1) := by decide +kernel
theorem dL_law_544 : decode cL_law 544 = .ok (.invokevirtual 56, 3) := by decide +kernel
theorem dL_law_547 : decode cL_law 547 = .ok (.if_icmp .eq 821, 3) := by decide +kernel
theorem dL_law_550 : decode cL_law 550 = .ok (.iconst 0, 1) := by decide +kernel
theorem dL_law_551 : decode cL_law 551 = .ok (.ireturn, 1) := by decide +kernel
theorem dL_law_552 : decode cL_law 552 = .ok (.aload_n 1, 1) := by decide +kernel
theorem dL_law_553 : decode cL_law 553 = .ok (.aload_n 0, 1) := by decide +kernel
theorem dL_law_554 : decode cL_law 554 = .ok (.iload_n 3, 1) := by decide +kernel
theorem dL_law_555 : decode cL_law 555 = .ok (.iconst 1, 1) := by decide +kernel
theorem dL_law_556 : decode cL_law 556 = .ok (.iadd, 1) := by decide +kernel
theorem dL_law_557 : decode cL_law 557 = .ok (.iaload, 1) := by decide +kernel
theorem dL_law_558 : decode cL_law 558 = .ok (.aload_n 0, 1) := by decide +kernel
theorem dL_law_559 : decode cL_law 559 = .ok (.iload_n 3, 1) := by decide +kernel
theorem dL_law_560 : decode cL_law 560 = .ok (.iconst 2, 1) := by decide +kernel
theorem dL_law_561 : decode cL_law 561 = .ok (.iadd, 1) := by decide +kernel
theorem dL_law_562 : decode cL_law 562 = .ok (.iaload, 1) := by decide +kernel
theorem dL_law_563 : decode cL_law 563 = .ok (.invokevirtual 57, 3) := by decide +kernel
theorem dL_law_566 : decode cL_law 566 = .ok (.aload_n 2, 1) := by decide +kernel
theorem dL_law_567 : decode cL_law 567 = .ok (.aload_n 0, 1) := by decide +kernel
theorem dL_law_568 : decode cL_law 568 = .ok (.iload_n 3, 1) := by decide +kernel
theorem dL_law_569 : decode cL_law 569 = .ok (.iconst 1, 1) := by decide +kernel
theorem dL_law_570 : decode cL_law 570 = .ok (.iadd, 1) := by decide +kernel
theorem dL_law_571 : decode cL_law 571 = .ok (.iaload, 1) := by decide +kernel
theorem dL_law_572 : decode cL_law 572 = .ok (.aload_n 0, 1) := by decide +kernel
theorem dL_law_573 : decode cL_law 573 = .ok (.iload_n 3, 1) := by decide +kernel
theorem dL_law_574 : decode cL_law 574 = .ok (.iconst 2, 1) := by decide +kernel
theorem dL_law_575 : decode cL_law 575 = .ok (.iadd, 1) := by decide +kernel
theorem dL_law_576 : decode cL_law 576 = .ok (.iaload, 1) := by decide +kernel
theorem dL_law_577 : decode cL_law 577 = .ok (.invokevirtual 60, 3) := by decide +kernel
theorem dL_law_580 : decode cL_law 580 = .ok (.if_icmp .eq 788, 3) := by decide +kernel
theorem dL_law_583 : decode cL_law 583 = .ok (.iconst 0, 1) := by decide +kernel
theorem dL_law_584 : decode cL_law 584 = .ok (.ireturn, 1) := by decide +kernel
theorem dL_law_585 : decode cL_law 585 = .ok (.aload_n 1, 1) := by decide +kernel
theorem dL_law_586 : decode cL_law 586 = .ok (.aload_n 0, 1) := by decide +kernel
theorem dL_law_587 : decode cL_law 587 = .ok (.iload_n 3, 1) := by decide +kernel
theorem dL_law_588 : decode cL_law 588 = .ok (.iconst 1, 1) := by decide +kernel
theorem dL_law_589 : decode cL_law 589 = .ok (.iadd, 1) := by decide +kernel
theorem dL_law_590 : decode cL_law 590 = .ok (.iaload, 1) := by decide +kernel
theorem dL_law_591 : decode cL_law 591 = .ok (.aload_n 0, 1) := by decide +kernel
theorem dL_law_592 : decode cL_law 592 = .ok (.iload_n 3, 1) := by decide +kernel
theorem dL_law_593 : decode cL_law 593 = .ok (.iconst 2, 1) := by decide +kernel
theorem dL_law_594 : decode cL_law 594 = .ok (.iadd, 1) := by decide +kernel
theorem dL_law_595 : decode cL_law 595 = .ok (.iaload, 1) := by decide +kernel
theorem dL_law_596 : decode cL_law 596 = .ok (.invokevirtual 61, 3) := by decide +kernel
theorem dL_law_599 : decode cL_law 599 = .ok (.aload_n 2, 1) := by decide +kernel
theorem dL_law_600 : decode cL_law 600 = .ok (.aload_n 0, 1) := by decide +kernel
theorem dL_law_601 : decode cL_law 601 = .ok (.iload_n 3, 1) := by decide +kernel
theorem dL_law_602 : decode cL_law 602 = .ok (.iconst 1, 1) := by decide +kernel
theorem dL_law_603 : decode cL_law 603 = .ok (.iadd, 1) := by decide +kernel
theorem dL_law_604 : decode cL_law 604 = .ok (.iaload, 1) := by decide +kernel
theorem dL_law_605 : decode cL_law 605 = .ok (.aload_n 0, 1) := by decide +kernel
theorem dL_law_606 : decode cL_law 606 = .ok (.iload_n 3, 1) := by decide +kernel
theorem dL_law_607 : decode cL_law 607 = .ok (.iconst 2, 1) := by decide +kernel
theorem dL_law_608 : decode cL_law 608 = .ok (.iadd, 1) := by decide +kernel
theorem dL_law_609 : decode cL_law 609 = .ok (.iaload, 1) := by decide +kernel
theorem dL_law_610 : decode cL_law 610 = .ok (.invokevirtual 64, 3) := by decide +kernel
theorem dL_law_613 : decode cL_law 613 = .ok (.if_icmp .eq 755, 3) := by decide +kernel
theorem dL_law_616 : decode cL_law 616 = .ok (.iconst 0, 1) := by decide +kernel
theorem dL_law_617 : decode cL_law 617 = .ok (.ireturn, 1) := by decide +kernel
theorem dL_law_618 : decode cL_law 618 = .ok (.aload_n 1, 1) := by decide +kernel
theorem dL_law_619 : decode cL_law 619 = .ok (.aload_n 0, 1) := by decide +kernel
theorem dL_law_620 : decode cL_law 620 = .ok (.iload_n 3, 1) := by decide +kernel
theorem dL_law_621 : decode cL_law 621 = .ok (.iconst 1, 1) := by decide +kernel
theorem dL_law_622 : decode cL_law 622 = .ok (.iadd, 1) := by decide +kernel
theorem dL_law_623 : decode cL_law 623 = .ok (.iaload, 1) := by decide +kernel
theorem dL_law_624 : decode cL_law 624 = .ok (.aload_n 0, 1) := by decide +kernel
theorem dL_law_625 : decode cL_law 625 = .ok (.iload_n 3, 1) := by decide +kernel
theorem dL_law_626 : decode cL_law 626 = .ok (.iconst 2, 1) := by decide +kernel
theorem dL_law_627 : decode cL_law 627 = .ok (.iadd, 1) := by decide +kernel
theorem dL_law_628 : decode cL_law 628 = .ok (.iaload, 1) := by decide +kernel
theorem dL_law_629 : decode cL_law 629 = .ok (.aload_n 0, 1) := by decide +kernel
theorem dL_law_630 : decode cL_law 630 = .ok (.iload_n 3, 1) := by decide +kernel
theorem dL_law_631 : decode cL_law 631 = .ok (.iconst 3, 1) := by decide +kernel
theorem dL_law_632 : decode cL_law 632 = .ok (.iadd, 1) := by decide +kernel
theorem dL_law_633 : decode cL_law 633 = .ok (.iaload, 1) := by decide +kernel
theorem dL_law_634 : decode cL_law 634 = .ok (.invokevirtual 65, 3) := by decide +kernel
theorem dL_law_637 : decode cL_law 637 = .ok (.aload_n 2, 1) := by decide +kernel
theorem dL_law_638 : decode cL_law 638 = .ok (.aload_n 0, 1) := by decide +kernel
theorem dL_law_639 : decode cL_law 639 = .ok (.iload_n 3, 1) := by decide +kernel
theorem dL_law_640 : decode cL_law 640 = .ok (.iconst 1, 1) := by decide +kernel
theorem dL_law_641 : decode cL_law 641 = .ok (.iadd, 1) := by decide +kernel
theorem dL_law_642 : decode cL_law 642 = .ok (.iaload, 1) := by decide +kernel
theorem dL_law_643 : decode cL_law 643 = .ok (.aload_n 0, 1) := by decide +kernel
theorem dL_law_644 : decode cL_law 644 = .ok (.iload_n 3, 1) := by decide +kernel
theorem dL_law_645 : decode cL_law 645 = .ok (.iconst 2, 1) := by decide +kernel
theorem dL_law_646 : decode cL_law 646 = .ok (.iadd, 1) := by decide +kernel
theorem dL_law_647 : decode cL_law 647 = .ok (.iaload, 1) := by decide +kernel
theorem dL_law_648 : decode cL_law 648 = .ok (.aload_n 0, 1) := by decide +kernel
theorem dL_law_649 : decode cL_law 649 = .ok (.iload_n 3, 1) := by decide +kernel
theorem dL_law_650 : decode cL_law 650 = .ok (.iconst 3, 1) := by decide +kernel
theorem dL_law_651 : decode cL_law 651 = .ok (.iadd, 1) := by decide +kernel
theorem dL_law_652 : decode cL_law 652 = .ok (.iaload, 1) := by decide +kernel
theorem dL_law_653 : decode cL_law 653 = .ok (.invokevirtual 68, 3) := by decide +kernel
theorem dL_law_656 : decode cL_law 656 = .ok (.if_icmp .eq 712, 3) := by decide +kernel
theorem dL_law_659 : decode cL_law 659 = .ok (.iconst 0, 1) := by decide +kernel
theorem dL_law_660 : decode cL_law 660 = .ok (.ireturn, 1) := by decide +kernel
theorem dL_law_661 : decode cL_law 661 = .ok (.aload_n 1, 1) := by decide +kernel
theorem dL_law_662 : decode cL_law 662 = .ok (.invokevirtual 69, 3) := by decide +kernel
theorem dL_law_665 : decode cL_law 665 = .ok (.aload_n 2, 1) := by decide +kernel
theorem dL_law_666 : decode cL_law 666 = .ok (.invokevirtual 73, 3) := by decide +kernel
theorem dL_law_669 : decode cL_law 669 = .ok (.if_icmp .eq 699, 3) := by decide +kernel
theorem dL_law_672 : decode cL_law 672 = .ok (.iconst 0, 1) := by decide +kernel
theorem dL_law_673 : decode cL_law 673 = .ok (.ireturn, 1) := by decide +kernel
theorem dL_law_674 : decode cL_law 674 = .ok (.aload_n 1, 1) := by decide +kernel
theorem dL_law_675 : decode cL_law 675 = .ok (.aload_n 0, 1) := by decide +kernel
theorem dL_law_676 : decode cL_law 676 = .ok (.iload_n 3, 1) := by decide +kernel
theorem dL_law_677 : decode cL_law 677 = .ok (.iconst 1, 1) := by decide +kernel
theorem dL_law_678 : decode cL_law 678 = .ok (.iadd, 1) := by decide +kernel
theorem dL_law_679 : decode cL_law 679 = .ok (.iaload, 1) := by decide +kernel
theorem dL_law_680 : decode cL_law 680 = .ok (.invokevirtual 74, 3) := by decide +kernel
theorem dL_law_683 : decode cL_law 683 = .ok (.aload_n 2, 1) := by decide +kernel
theorem dL_law_684 : decode cL_law 684 = .ok (.aload_n 0, 1) := by decide +kernel
theorem dL_law_685 : decode cL_law 685 = .ok (.iload_n 3, 1) := by decide +kernel
theorem dL_law_686 : decode cL_law 686 = .ok (.iconst 1, 1) := by decide +kernel
theorem dL_law_687 : decode cL_law 687 = .ok (.iadd, 1) := by decide +kernel
theorem dL_law_688 : decode cL_law 688 = .ok (.iaload, 1) := by decide +kernel
theorem dL_law_689 : decode cL_law 689 = .ok (.invokevirtual 77, 3) := by decide +kernel
theorem dL_law_692 : decode cL_law 692 = .ok (.if_icmp .eq 676, 3) := by decide +kernel
theorem dL_law_695 : decode cL_law 695 = .ok (.iconst 0, 1) := by decide +kernel
theorem dL_law_696 : decode cL_law 696 = .ok (.ireturn, 1) := by decide +kernel
theorem dL_law_697 : decode cL_law 697 = .ok (.aload_n 1, 1) := by decide +kernel
theorem dL_law_698 : decode cL_law 698 = .ok (.aload_n 0, 1) := by decide +kernel
theorem dL_law_699 : decode cL_law 699 = .ok (.iload_n 3, 1) := by decide +kernel
theorem dL_law_700 : decode cL_law 700 = .ok (.iconst 1, 1) := by decide +kernel
theorem dL_law_701 : decode cL_law 701 = .ok (.iadd, 1) := by decide +kernel
theorem dL_law_702 : decode cL_law 702 = .ok (.iaload, 1) := by decide +kernel
theorem dL_law_703 : decode cL_law 703 = .ok (.invokevirtual 78, 3) := by decide +kernel
theorem dL_law_706 : decode cL_law 706 = .ok (.aload_n 2, 1) := by decide +kernel
theorem dL_law_707 : decode cL_law 707 = .ok (.aload_n 0, 1) := by decide +kernel
theorem dL_law_708 : decode cL_law 708 = .ok (.iload_n 3, 1) := by decide +kernel
theorem dL_law_709 : decode cL_law 709 = .ok (.iconst 1, 1) := by decide +kernel
theorem dL_law_710 : decode cL_law 710 = .ok (.iadd, 1) := by decide +kernel
theorem dL_law_711 : decode cL_law 711 = .ok (.iaload, 1) := by decide +kernel
theorem dL_law_712 : decode cL_law 712 = .ok (.invokevirtual 81, 3) := by decide +kernel
theorem dL_law_715 : decode cL_law 715 = .ok (.if_icmp .eq 653, 3) := by decide +kernel
theorem dL_law_718 : decode cL_law 718 = .ok (.iconst 0, 1) := by decide +kernel
theorem dL_law_719 : decode cL_law 719 = .ok (.ireturn, 1) := by decide +kernel
theorem dL_law_720 : decode cL_law 720 = .ok (.aload_n 1, 1) := by decide +kernel
theorem dL_law_721 : decode cL_law 721 = .ok (.aload_n 0, 1) := by decide +kernel
theorem dL_law_722 : decode cL_law 722 = .ok (.iload_n 3, 1) := by decide +kernel
theorem dL_law_723 : decode cL_law 723 = .ok (.iconst 1, 1) := by decide +kernel
theorem dL_law_724 : decode cL_law 724 = .ok (.iadd, 1) := by decide +kernel
theorem dL_law_725 : decode cL_law 725 = .ok (.iaload, 1) := by decide +kernel
theorem dL_law_726 : decode cL_law 726 = .ok (.aload_n 0, 1) := by decide +kernel
theorem dL_law_727 : decode cL_law 727 = .ok (.iload_n 3, 1) := by decide +kernel
theorem dL_law_728 : decode cL_law 728 = .ok (.iconst 2, 1) := by decide +kernel
theorem dL_law_729 : decode cL_law 729 = .ok (.iadd, 1) := by decide +kernel
theorem dL_law_730 : decode cL_law 730 = .ok (.iaload, 1) := by decide +kernel
theorem dL_law_731 : decode cL_law 731 = .ok (.aload_n 0, 1) := by decide +kernel
theorem dL_law_732 : decode cL_law 732 = .ok (.iload_n 3, 1) := by decide +kernel
theorem dL_law_733 : decode cL_law 733 = .ok (.iconst 3, 1) := by decide +kernel
theorem dL_law_734 : decode cL_law 734 = .ok (.iadd, 1) := by decide +kernel
theorem dL_law_735 : decode cL_law 735 = .ok (.iaload, 1) := by decide +kernel
theorem dL_law_736 : decode cL_law 736 = .ok (.invokevirtual 82, 3) := by decide +kernel
theorem dL_law_739 : decode cL_law 739 = .ok (.aload_n 2, 1) := by decide +kernel
theorem dL_law_740 : decode cL_law 740 = .ok (.aload_n 0, 1) := by decide +kernel
theorem dL_law_741 : decode cL_law 741 = .ok (.iload_n 3, 1) := by decide +kernel
theorem dL_law_742 : decode cL_law 742 = .ok (.iconst 1, 1) := by decide +kernel
theorem dL_law_743 : decode cL_law 743 = .ok (.iadd, 1) := by decide +kernel
theorem dL_law_744 : decode cL_law 744 = .ok (.iaload, 1) := by decide +kernel
theorem dL_law_745 : decode cL_law 745 = .ok (.aload_n 0, 1) := by decide +kernel
theorem dL_law_746 : decode cL_law 746 = .ok (.iload_n 3, 1) := by decide +kernel
theorem dL_law_747 : decode cL_law 747 = .ok (.iconst 2, 1) := by decide +kernel
theorem dL_law_748 : decode cL_law 748 = .ok (.iadd, 1) := by decide +kernel
theorem dL_law_749 : decode cL_law 749 = .ok (.iaload, 1) := by decide +kernel
theorem dL_law_750 : decode cL_law 750 = .ok (.aload_n 0, 1) := by decide +kernel
theorem dL_law_751 : decode cL_law 751 = .ok (.iload_n 3, 1) := by decide +kernel
theorem dL_law_752 : decode cL_law 752 = .ok (.iconst 3, 1) := by decide +kernel
theorem dL_law_753 : decode cL_law 753 = .ok (.iadd, 1) := by decide +kernel
theorem dL_law_754 : decode cL_law 754 = .ok (.iaload, 1) := by decide +kernel
theorem dL_law_755 : decode cL_law 755 = .ok (.invokevirtual 85, 3) := by decide +kernel
theorem dL_law_758 : decode cL_law 758 = .ok (.if_icmp .eq 610, 3) := by decide +kernel
theorem dL_law_761 : decode cL_law 761 = .ok (.iconst 0, 1) := by decide +kernel
theorem dL_law_762 : decode cL_law 762 = .ok (.ireturn, 1) := by decide +kernel
theorem dL_law_763 : decode cL_law 763 = .ok (.aload_n 1, 1) := by decide +kernel
theorem dL_law_764 : decode cL_law 764 = .ok (.aload_n 0, 1) := by decide +kernel
theorem dL_law_765 : decode cL_law 765 = .ok (.iload_n 3, 1) := by decide +kernel
theorem dL_law_766 : decode cL_law 766 = .ok (.iconst 1, 1) := by decide +kernel
theorem dL_law_767 : decode cL_law 767 = .ok (.iadd, 1) := by decide +kernel
theorem dL_law_768 : decode cL_law 768 = .ok (.iaload, 1) := by decide +kernel
theorem dL_law_769 : decode cL_law 769 = .ok (.invokevirtual 86, 3) := by decide +kernel
theorem dL_law_772 : decode cL_law 772 = .ok (.aload_n 2, 1) := by decide +kernel
theorem dL_law_773 : decode cL_law 773 = .ok (.aload_n 0, 1) := by decide +kernel
theorem dL_law_774 : decode cL_law 774 = .ok (.iload_n 3, 1) := by decide +kernel
theorem dL_law_775 : decode cL_law 775 = .ok (.iconst 1, 1) := by decide +kernel
theorem dL_law_776 : decode cL_law 776 = .ok (.iadd, 1) := by decide +kernel
theorem dL_law_777 : decode cL_law 777 = .ok (.iaload, 1) := by decide +kernel
theorem dL_law_778 : decode cL_law 778 = .ok (.invokevirtual 89, 3) := by decide +kernel
theorem dL_law_781 : decode cL_law 781 = .ok (.if_icmp .eq 587, 3) := by decide +kernel
theorem dL_law_784 : decode cL_law 784 = .ok (.iconst 0, 1) := by decide +kernel
theorem dL_law_785 : decode cL_law 785 = .ok (.ireturn, 1) := by decide +kernel
theorem dL_law_786 : decode cL_law 786 = .ok (.aload_n 1, 1) := by decide +kernel
theorem dL_law_787 : decode cL_law 787 = .ok (.aload_n 0, 1) := by decide +kernel
theorem dL_law_788 : decode cL_law 788 = .ok (.iload_n 3, 1) := by decide +kernel
theorem dL_law_789 : decode cL_law 789 = .ok (.iconst 1, 1) := by decide +kernel
theorem dL_law_790 : decode cL_law 790 = .ok (.iadd, 1) := by decide +kernel
theorem dL_law_791 : decode cL_law 791 = .ok (.iaload, 1) := by decide +kernel
theorem dL_law_792 : decode cL_law 792 = .ok (.invokevirtual 90, 3) := by decide +kernel
theorem dL_law_795 : decode cL_law 795 = .ok (.aload_n 2, 1) := by decide +kernel
theorem dL_law_796 : decode cL_law 796 = .ok (.aload_n 0, 1) := by decide +kernel
theorem dL_law_797 : decode cL_law 797 = .ok (.iload_n 3, 1) := by decide +kernel
theorem dL_law_798 : decode cL_law 798 = .ok (.iconst 1, 1) := by decide +kernel
theorem dL_law_799 : decode cL_law 799 = .ok (.iadd, 1) := by decide +kernel
theorem dL_law_800 : decode cL_law 800 = .ok (.iaload, 1) := by decide +kernel
theorem dL_law_801 : decode cL_law 801 = .ok (.invokevirtual 93, 3) := by decide +kernel
theorem dL_law_804 : decode cL_law 804 = .ok (.if_icmp .eq 564, 3) := by decide +kernel
theorem dL_law_807 : decode cL_law 807 = .ok (.iconst 0, 1) := by decide +kernel
theorem dL_law_808 : decode cL_law 808 = .ok (.ireturn, 1) := by decide +kernel
theorem dL_law_809 : decode cL_law 809 = .ok (.aload_n 1, 1) := by decide +kernel
theorem dL_law_810 : decode cL_law 810 = .ok (.aload_n 0, 1) := by decide +kernel
theorem dL_law_811 : decode cL_law 811 = .ok (.iload_n 3, 1) := by decide +kernel
theorem dL_law_812 : decode cL_law 812 = .ok (.iconst 1, 1) := by decide +kernel
theorem dL_law_813 : decode cL_law 813 = .ok (.iadd, 1) := by decide +kernel
theorem dL_law_814 : decode cL_law 814 = .ok (.iaload, 1) := by decide +kernel
theorem dL_law_815 : decode cL_law 815 = .ok (.invokevirtual 94, 3) := by decide +kernel
theorem dL_law_818 : decode cL_law 818 = .ok (.aload_n 2, 1) := by decide +kernel
theorem dL_law_819 : decode cL_law 819 = .ok (.aload_n 0, 1) := by decide +kernel
theorem dL_law_820 : decode cL_law 820 = .ok (.iload_n 3, 1) := by decide +kernel
theorem dL_law_821 : decode cL_law 821 = .ok (.iconst 1, 1) := by decide +kernel
theorem dL_law_822 : decode cL_law 822 = .ok (.iadd, 1) := by decide +kernel
theorem dL_law_823 : decode cL_law 823 = .ok (.iaload, 1) := by decide +kernel
theorem dL_law_824 : decode cL_law 824 = .ok (.invokevirtual 97, 3) := by decide +kernel
theorem dL_law_827 : decode cL_law 827 = .ok (.if_icmp .eq 541, 3) := by decide +kernel
theorem dL_law_830 : decode cL_law 830 = .ok (.iconst 0, 1) := by decide +kernel
theorem dL_law_831 : decode cL_law 831 = .ok (.ireturn, 1) := by decide +kernel
theorem dL_law_832 : decode cL_law 832 = .ok (.aload_n 1, 1) := by decide +kernel
theorem dL_law_833 : decode cL_law 833 = .ok (.invokevirtual 98, 3) := by decide +kernel
theorem dL_law_836 : decode cL_law 836 = .ok (.aload_n 2, 1) := by decide +kernel
theorem dL_law_837 : decode cL_law 837 = .ok (.invokevirtual 101, 3) := by decide +kernel
theorem dL_law_840 : decode cL_law 840 = .ok (.if_icmp .eq 528, 3) := by decide +kernel
theorem dL_law_843 : decode cL_law 843 = .ok (.iconst 0, 1) := by decide +kernel
theorem dL_law_844 : decode cL_law 844 = .ok (.ireturn, 1) := by decide +kernel
theorem dL_law_845 : decode cL_law 845 = .ok (.aload_n 1, 1) := by decide +kernel
theorem dL_law_846 : decode cL_law 846 = .ok (.aload_n 0, 1) := by decide +kernel
theorem dL_law_847 : decode cL_law 847 = .ok (.iload_n 3, 1) := by decide +kernel
theorem dL_law_848 : decode cL_law 848 = .ok (.iconst 1, 1) := by decide +kernel
theorem dL_law_849 : decode cL_law 849 = .ok (.iadd, 1) := by decide +kernel
theorem dL_law_850 : decode cL_law 850 = .ok (.iaload, 1) := by decide +kernel
theorem dL_law_851 : decode cL_law 851 = .ok (.aload_n 0, 1) := by decide +kernel
theorem dL_law_852 : decode cL_law 852 = .ok (.iload_n 3, 1) := by decide +kernel
theorem dL_law_853 : decode cL_law 853 = .ok (.iconst 2, 1) := by decide +kernel
theorem dL_law_854 : decode cL_law 854 = .ok (.iadd, 1) := by decide +kernel
theorem dL_law_855 : decode cL_law 855 = .ok (.iaload, 1) := by decide +kernel
theorem dL_law_856 : decode cL_law 856 = .ok (.invokevirtual 102, 3) := by decide +kernel
theorem dL_law_859 : decode cL_law 859 = .ok (.aload_n 2, 1) := by decide +kernel
theorem dL_law_860 : decode cL_law 860 = .ok (.aload_n 0, 1) := by decide +kernel
theorem dL_law_861 : decode cL_law 861 = .ok (.iload_n 3, 1) := by decide +kernel
theorem dL_law_862 : decode cL_law 862 = .ok (.iconst 1, 1) := by decide +kernel
theorem dL_law_863 : decode cL_law 863 = .ok (.iadd, 1) := by decide +kernel
theorem dL_law_864 : decode cL_law 864 = .ok (.iaload, 1) := by decide +kernel
theorem dL_law_865 : decode cL_law 865 = .ok (.aload_n 0, 1) := by decide +kernel
theorem dL_law_866 : decode cL_law 866 = .ok (.iload_n 3, 1) := by decide +kernel
theorem dL_law_867 : decode cL_law 867 = .ok (.iconst 2, 1) := by decide +kernel
theorem dL_law_868 : decode cL_law 868 = .ok (.iadd, 1) := by decide +kernel
theorem dL_law_869 : decode cL_law 869 = .ok (.iaload, 1) := by decide +kernel
theorem dL_law_870 : decode cL_law 870 = .ok (.invokevirtual 105, 3) := by decide +kernel
theorem dL_law_873 : decode cL_law 873 = .ok (.if_icmp .eq 495, 3) := by decide +kernel
theorem dL_law_876 : decode cL_law 876 = .ok (.iconst 0, 1) := by decide +kernel
theorem dL_law_877 : decode cL_law 877 = .ok (.ireturn, 1) := by decide +kernel
theorem dL_law_878 : decode cL_law 878 = .ok (.aload_n 1, 1) := by decide +kernel
theorem dL_law_879 : decode cL_law 879 = .ok (.invokevirtual 106, 3) := by decide +kernel
theorem dL_law_882 : decode cL_law 882 = .ok (.aload_n 2, 1) := by decide +kernel
theorem dL_law_883 : decode cL_law 883 = .ok (.invokevirtual 109, 3) := by decide +kernel
theorem dL_law_886 : decode cL_law 886 = .ok (.if_icmp .eq 482, 3) := by decide +kernel
theorem dL_law_889 : decode cL_law 889 = .ok (.iconst 0, 1) := by decide +kernel
theorem dL_law_890 : decode cL_law 890 = .ok (.ireturn, 1) := by decide +kernel
theorem dL_law_891 : decode cL_law 891 = .ok (.aload_n 1, 1) := by decide +kernel
theorem dL_law_892 : decode cL_law 892 = .ok (.aload_n 0, 1) := by decide +kernel
theorem dL_law_893 : decode cL_law 893 = .ok (.iload_n 3, 1) := by decide +kernel
theorem dL_law_894 : decode cL_law 894 = .ok (.iconst 1, 1) := by decide +kernel
theorem dL_law_895 : decode cL_law 895 = .ok (.iadd, 1) := by decide +kernel
theorem dL_law_896 : decode cL_law 896 = .ok (.iaload, 1) := by decide +kernel
theorem dL_law_897 : decode cL_law 897 = .ok (.invokevirtual 110, 3) := by decide +kernel
theorem dL_law_900 : decode cL_law 900 = .ok (.aload_n 2, 1) := by decide +kernel
theorem dL_law_901 : decode cL_law 901 = .ok (.aload_n 0, 1) := by decide +kernel
theorem dL_law_902 : decode cL_law 902 = .ok (.iload_n 3, 1) := by decide +kernel
theorem dL_law_903 : decode cL_law 903 = .ok (.iconst 1, 1) := by decide +kernel
theorem dL_law_904 : decode cL_law 904 = .ok (.iadd, 1) := by decide +kernel
theorem dL_law_905 : decode cL_law 905 = .ok (.iaload, 1) := by decide +kernel
theorem dL_law_906 : decode cL_law 906 = .ok (.invokevirtual 113, 3) := by decide +kernel
theorem dL_law_909 : decode cL_law 909 = .ok (.if_icmp .eq 459, 3) := by decide +kernel
theorem dL_law_912 : decode cL_law 912 = .ok (.iconst 0, 1) := by decide +kernel
theorem dL_law_913 : decode cL_law 913 = .ok (.ireturn, 1) := by decide +kernel
theorem dL_law_914 : decode cL_law 914 = .ok (.aload_n 1, 1) := by decide +kernel
theorem dL_law_915 : decode cL_law 915 = .ok (.aload_n 0, 1) := by decide +kernel
theorem dL_law_916 : decode cL_law 916 = .ok (.iload_n 3, 1) := by decide +kernel
theorem dL_law_917 : decode cL_law 917 = .ok (.iconst 1, 1) := by decide +kernel
theorem dL_law_918 : decode cL_law 918 = .ok (.iadd, 1) := by decide +kernel
theorem dL_law_919 : decode cL_law 919 = .ok (.iaload, 1) := by decide +kernel
theorem dL_law_920 : decode cL_law 920 = .ok (.invokevirtual 114, 3) := by decide +kernel
theorem dL_law_923 : decode cL_law 923 = .ok (.aload_n 2, 1) := by decide +kernel
theorem dL_law_924 : decode cL_law 924 = .ok (.aload_n 0, 1) := by decide +kernel
theorem dL_law_925 : decode cL_law 925 = .ok (.iload_n 3, 1) := by decide +kernel
theorem dL_law_926 : decode cL_law 926 = .ok (.iconst 1, 1) := by decide +kernel
theorem dL_law_927 : decode cL_law 927 = .ok (.iadd, 1) := by decide +kernel
theorem dL_law_928 : decode cL_law 928 = .ok (.iaload, 1) := by decide +kernel
theorem dL_law_929 : decode cL_law 929 = .ok (.invokevirtual 117, 3) := by decide +kernel
theorem dL_law_932 : decode cL_law 932 = .ok (.if_icmp .eq 436, 3) := by decide +kernel
theorem dL_law_935 : decode cL_law 935 = .ok (.iconst 0, 1) := by decide +kernel
theorem dL_law_936 : decode cL_law 936 = .ok (.ireturn, 1) := by decide +kernel
theorem dL_law_937 : decode cL_law 937 = .ok (.aload_n 1, 1) := by decide +kernel
theorem dL_law_938 : decode cL_law 938 = .ok (.aload_n 0, 1) := by decide +kernel
theorem dL_law_939 : decode cL_law 939 = .ok (.iload_n 3, 1) := by decide +kernel
theorem dL_law_940 : decode cL_law 940 = .ok (.iconst 1, 1) := by decide +kernel
theorem dL_law_941 : decode cL_law 941 = .ok (.iadd, 1) := by decide +kernel
theorem dL_law_942 : decode cL_law 942 = .ok (.iaload, 1) := by decide +kernel
theorem dL_law_943 : decode cL_law 943 = .ok (.aload_n 0, 1) := by decide +kernel
theorem dL_law_944 : decode cL_law 944 = .ok (.iload_n 3, 1) := by decide +kernel
theorem dL_law_945 : decode cL_law 945 = .ok (.iconst 2, 1) := by decide +kernel
theorem dL_law_946 : decode cL_law 946 = .ok (.iadd, 1) := by decide +kernel
theorem dL_law_947 : decode cL_law 947 = .ok (.iaload, 1) := by decide +kernel
theorem dL_law_948 : decode cL_law 948 = .ok (.aload_n 0, 1) := by decide +kernel
theorem dL_law_949 : decode cL_law 949 = .ok (.iload_n 3, 1) := by decide +kernel
theorem dL_law_950 : decode cL_law 950 = .ok (.iconst 3, 1) := by decide +kernel
theorem dL_law_951 : decode cL_law 951 = .ok (.iadd, 1) := by decide +kernel
theorem dL_law_952 : decode cL_law 952 = .ok (.iaload, 1) := by decide +kernel
theorem dL_law_953 : decode cL_law 953 = .ok (.aload_n 0, 1) := by decide +kernel
theorem dL_law_954 : decode cL_law 954 = .ok (.iload_n 3, 1) := by decide +kernel
theorem dL_law_955 : decode cL_law 955 = .ok (.iconst 4, 1) := by decide +kernel
theorem dL_law_956 : decode cL_law 956 = .ok (.iadd, 1) := by decide +kernel
theorem dL_law_957 : decode cL_law 957 = .ok (.iaload, 1) := by decide +kernel
theorem dL_law_958 : decode cL_law 958 = .ok (.invokevirtual 118, 3) := by decide +kernel
theorem dL_law_961 : decode cL_law 961 = .ok (.aload_n 2, 1) := by decide +kernel
theorem dL_law_962 : decode cL_law 962 = .ok (.aload_n 0, 1) := by decide +kernel
theorem dL_law_963 : decode cL_law 963 = .ok (.iload_n 3, 1) := by decide +kernel
theorem dL_law_964 : decode cL_law 964 = .ok (.iconst 1, 1) := by decide +kernel
theorem dL_law_965 : decode cL_law 965 = .ok (.iadd, 1) := by decide +kernel
theorem dL_law_966 : decode cL_law 966 = .ok (.iaload, 1) := by decide +kernel
theorem dL_law_967 : decode cL_law 967 = .ok (.aload_n 0, 1) := by decide +kernel
theorem dL_law_968 : decode cL_law 968 = .ok (.iload_n 3, 1) := by decide +kernel
theorem dL_law_969 : decode cL_law 969 = .ok (.iconst 2, 1) := by decide +kernel
theorem dL_law_970 : decode cL_law 970 = .ok (.iadd, 1) := by decide +kernel
theorem dL_law_971 : decode cL_law 971 = .ok (.iaload, 1) := by decide +kernel
theorem dL_law_972 : decode cL_law 972 = .ok (.aload_n 0, 1) := by decide +kernel
theorem dL_law_973 : decode cL_law 973 = .ok (.iload_n 3, 1) := by decide +kernel
theorem dL_law_974 : decode cL_law 974 = .ok (.iconst 3, 1) := by decide +kernel
theorem dL_law_975 : decode cL_law 975 = .ok (.iadd, 1) := by decide +kernel
theorem dL_law_976 : decode cL_law 976 = .ok (.iaload, 1) := by decide +kernel
theorem dL_law_977 : decode cL_law 977 = .ok (.aload_n 0, 1) := by decide +kernel
theorem dL_law_978 : decode cL_law 978 = .ok (.iload_n 3, 1) := by decide +kernel
theorem dL_law_979 : decode cL_law 979 = .ok (.iconst 4, 1) := by decide +kernel
theorem dL_law_980 : decode cL_law 980 = .ok (.iadd, 1) := by decide +kernel
theorem dL_law_981 : decode cL_law 981 = .ok (.iaload, 1) := by decide +kernel
theorem dL_law_982 : decode cL_law 982 = .ok (.invokevirtual 122, 3) := by decide +kernel
theorem dL_law_985 : decode cL_law 985 = .ok (.if_icmp .eq 383, 3) := by decide +kernel
theorem dL_law_988 : decode cL_law 988 = .ok (.iconst 0, 1) := by decide +kernel
theorem dL_law_989 : decode cL_law 989 = .ok (.ireturn, 1) := by decide +kernel
theorem dL_law_990 : decode cL_law 990 = .ok (.aload_n 1, 1) := by decide +kernel
theorem dL_law_991 : decode cL_law 991 = .ok (.aload_n 0, 1) := by decide +kernel
theorem dL_law_992 : decode cL_law 992 = .ok (.iload_n 3, 1) := by decide +kernel
theorem dL_law_993 : decode cL_law 993 = .ok (.iconst 1, 1) := by decide +kernel
theorem dL_law_994 : decode cL_law 994 = .ok (.iadd, 1) := by decide +kernel
theorem dL_law_995 : decode cL_law 995 = .ok (.iaload, 1) := by decide +kernel
theorem dL_law_996 : decode cL_law 996 = .ok (.invokevirtual 123, 3) := by decide +kernel
theorem dL_law_999 : decode cL_law 999 = .ok (.aload_n 2, 1) := by decide +kernel
theorem dL_law_1000 : decode cL_law 1000 = .ok (.aload_n 0, 1) := by decide +kernel
theorem dL_law_1001 : decode cL_law 1001 = .ok (.iload_n 3, 1) := by decide +kernel
theorem dL_law_1002 : decode cL_law 1002 = .ok (.iconst 1, 1) := by decide +kernel
theorem dL_law_1003 : decode cL_law 1003 = .ok (.iadd, 1) := by decide +kernel
theorem dL_law_1004 : decode cL_law 1004 = .ok (.iaload, 1) := by decide +kernel
theorem dL_law_1005 : decode cL_law 1005 = .ok (.invokevirtual 126, 3) := by decide +kernel
theorem dL_law_1008 : decode cL_law 1008 = .ok (.if_icmp .eq 360, 3) := by decide +kernel
theorem dL_law_1011 : decode cL_law 1011 = .ok (.iconst 0, 1) := by decide +kernel
theorem dL_law_1012 : decode cL_law 1012 = .ok (.ireturn, 1) := by decide +kernel
theorem dL_law_1013 : decode cL_law 1013 = .ok (.aload_n 1, 1) := by decide +kernel
theorem dL_law_1014 : decode cL_law 1014 = .ok (.aload_n 0, 1) := by decide +kernel
theorem dL_law_1015 : decode cL_law 1015 = .ok (.iload_n 3, 1) := by decide +kernel
theorem dL_law_1016 : decode cL_law 1016 = .ok (.iconst 1, 1) := by decide +kernel
theorem dL_law_1017 : decode cL_law 1017 = .ok (.iadd, 1) := by decide +kernel
theorem dL_law_1018 : decode cL_law 1018 = .ok (.iaload, 1) := by decide +kernel
theorem dL_law_1019 : decode cL_law 1019 = .ok (.aload_n 0, 1) := by decide +kernel
theorem dL_law_1020 : decode cL_law 1020 = .ok (.iload_n 3, 1) := by decide +kernel
theorem dL_law_1021 : decode cL_law 1021 = .ok (.iconst 2, 1) := by decide +kernel
theorem dL_law_1022 : decode cL_law 1022 = .ok (.iadd, 1) := by decide +kernel
theorem dL_law_1023 : decode cL_law 1023 = .ok (.iaload, 1) := by decide +kernel
theorem dL_law_1024 : decode cL_law 1024 = .ok (.invokevirtual 127, 3) := by decide +kernel
theorem dL_law_1027 : decode cL_law 1027 = .ok (.aload_n 2, 1) := by decide +kernel
theorem dL_law_1028 : decode cL_law 1028 = .ok (.aload_n 0, 1) := by decide +kernel
theorem dL_law_1029 : decode cL_law 1029 = .ok (.iload_n 3, 1) := by decide +kernel
theorem dL_law_1030 : decode cL_law 1030 = .ok (.iconst 1, 1) := by decide +kernel
theorem dL_law_1031 : decode cL_law 1031 = .ok (.iadd, 1) := by decide +kernel
theorem dL_law_1032 : decode cL_law 1032 = .ok (.iaload, 1) := by decide +kernel
theorem dL_law_1033 : decode cL_law 1033 = .ok (.aload_n 0, 1) := by decide +kernel
theorem dL_law_1034 : decode cL_law 1034 = .ok (.iload_n 3, 1) := by decide +kernel
theorem dL_law_1035 : decode cL_law 1035 = .ok (.iconst 2, 1) := by decide +kernel
theorem dL_law_1036 : decode cL_law 1036 = .ok (.iadd, 1) := by decide +kernel
theorem dL_law_1037 : decode cL_law 1037 = .ok (.iaload, 1) := by decide +kernel
theorem dL_law_1038 : decode cL_law 1038 = .ok (.invokevirtual 130, 3) := by decide +kernel
theorem dL_law_1041 : decode cL_law 1041 = .ok (.if_icmp .eq 327, 3) := by decide +kernel
theorem dL_law_1044 : decode cL_law 1044 = .ok (.iconst 0, 1) := by decide +kernel
theorem dL_law_1045 : decode cL_law 1045 = .ok (.ireturn, 1) := by decide +kernel
theorem dL_law_1046 : decode cL_law 1046 = .ok (.aload_n 1, 1) := by decide +kernel
theorem dL_law_1047 : decode cL_law 1047 = .ok (.aload_n 0, 1) := by decide +kernel
theorem dL_law_1048 : decode cL_law 1048 = .ok (.iload_n 3, 1) := by decide +kernel
theorem dL_law_1049 : decode cL_law 1049 = .ok (.iconst 1, 1) := by decide +kernel
theorem dL_law_1050 : decode cL_law 1050 = .ok (.iadd, 1) := by decide +kernel
theorem dL_law_1051 : decode cL_law 1051 = .ok (.iaload, 1) := by decide +kernel
theorem dL_law_1052 : decode cL_law 1052 = .ok (.aload_n 0, 1) := by decide +kernel
theorem dL_law_1053 : decode cL_law 1053 = .ok (.iload_n 3, 1) := by decide +kernel
theorem dL_law_1054 : decode cL_law 1054 = .ok (.iconst 2, 1) := by decide +kernel
theorem dL_law_1055 : decode cL_law 1055 = .ok (.iadd, 1) := by decide +kernel
theorem dL_law_1056 : decode cL_law 1056 = .ok (.iaload, 1) := by decide +kernel
theorem dL_law_1057 : decode cL_law 1057 = .ok (.invokevirtual 131, 3) := by decide +kernel
theorem dL_law_1060 : decode cL_law 1060 = .ok (.aload_n 2, 1) := by decide +kernel
theorem dL_law_1061 : decode cL_law 1061 = .ok (.aload_n 0, 1) := by decide +kernel
theorem dL_law_1062 : decode cL_law 1062 = .ok (.iload_n 3, 1) := by decide +kernel
theorem dL_law_1063 : decode cL_law 1063 = .ok (.iconst 1, 1) := by decide +kernel
theorem dL_law_1064 : decode cL_law 1064 = .ok (.iadd, 1) := by decide +kernel
theorem dL_law_1065 : decode cL_law 1065 = .ok (.iaload, 1) := by decide +kernel
theorem dL_law_1066 : decode cL_law 1066 = .ok (.aload_n 0, 1) := by decide +kernel
theorem dL_law_1067 : decode cL_law 1067 = .ok (.iload_n 3, 1) := by decide +kernel
theorem dL_law_1068 : decode cL_law 1068 = .ok (.iconst 2, 1) := by decide +kernel
theorem dL_law_1069 : decode cL_law 1069 = .ok (.iadd, 1) := by decide +kernel
theorem dL_law_1070 : decode cL_law 1070 = .ok (.iaload, 1) := by decide +kernel
theorem dL_law_1071 : decode cL_law 1071 = .ok (.invokevirtual 134, 3) := by decide +kernel
theorem dL_law_1074 : decode cL_law 1074 = .ok (.if_icmp .eq 294, 3) := by decide +kernel
theorem dL_law_1077 : decode cL_law 1077 = .ok (.iconst 0, 1) := by decide +kernel
theorem dL_law_1078 : decode cL_law 1078 = .ok (.ireturn, 1) := by decide +kernel
theorem dL_law_1079 : decode cL_law 1079 = .ok (.aload_n 1, 1) := by decide +kernel
theorem dL_law_1080 : decode cL_law 1080 = .ok (.aload_n 0, 1) := by decide +kernel
theorem dL_law_1081 : decode cL_law 1081 = .ok (.iload_n 3, 1) := by decide +kernel
theorem dL_law_1082 : decode cL_law 1082 = .ok (.iconst 1, 1) := by decide +kernel
theorem dL_law_1083 : decode cL_law 1083 = .ok (.iadd, 1) := by decide +kernel
theorem dL_law_1084 : decode cL_law 1084 = .ok (.iaload, 1) := by decide +kernel
theorem dL_law_1085 : decode cL_law 1085 = .ok (.aload_n 0, 1) := by decide +kernel
theorem dL_law_1086 : decode cL_law 1086 = .ok (.iload_n 3, 1) := by decide +kernel
theorem dL_law_1087 : decode cL_law 1087 = .ok (.iconst 2, 1) := by decide +kernel
theorem dL_law_1088 : decode cL_law 1088 = .ok (.iadd, 1) := by decide +kernel
theorem dL_law_1089 : decode cL_law 1089 = .ok (.iaload, 1) := by decide +kernel
theorem dL_law_1090 : decode cL_law 1090 = .ok (.invokevirtual 135, 3) := by decide +kernel
theorem dL_law_1093 : decode cL_law 1093 = .ok (.aload_n 2, 1) := by decide +kernel
theorem dL_law_1094 : decode cL_law 1094 = .ok (.aload_n 0, 1) := by decide +kernel
theorem dL_law_1095 : decode cL_law 1095 = .ok (.iload_n 3, 1) := by decide +kernel
theorem dL_law_1096 : decode cL_law 1096 = .ok (.iconst 1, 1) := by decide +kernel
theorem dL_law_1097 : decode cL_law 1097 = .ok (.iadd, 1) := by decide +kernel
theorem dL_law_1098 : decode cL_law 1098 = .ok (.iaload, 1) := by decide +kernel
theorem dL_law_1099 : decode cL_law 1099 = .ok (.aload_n 0, 1) := by decide +kernel
theorem dL_law_1100 : decode cL_law 1100 = .ok (.iload_n 3, 1) := by decide +kernel
theorem dL_law_1101 : decode cL_law 1101 = .ok (.iconst 2, 1) := by decide +kernel
theorem dL_law_1102 : decode cL_law 1102 = .ok (.iadd, 1) := by decide +kernel
theorem dL_law_1103 : decode cL_law 1103 = .ok (.iaload, 1) := by decide +kernel
theorem dL_law_1104 : decode cL_law 1104 = .ok (.invokevirtual 138, 3) := by decide +kernel
theorem dL_law_1107 : decode cL_law 1107 = .ok (.if_icmp .eq 261, 3) := by decide +kernel
theorem dL_law_1110 : decode cL_law 1110 = .ok (.iconst 0, 1) := by decide +kernel
theorem dL_law_1111 : decode cL_law 1111 = .ok (.ireturn, 1) := by decide +kernel
theorem dL_law_1112 : decode cL_law 1112 = .ok (.aload_n 1, 1) := by decide +kernel
theorem dL_law_1113 : decode cL_law 1113 = .ok (.aload_n 0, 1) := by decide +kernel
theorem dL_law_1114 : decode cL_law 1114 = .ok (.iload_n 3, 1) := by decide +kernel
theorem dL_law_1115 : decode cL_law 1115 = .ok (.iconst 1, 1) := by decide +kernel
theorem dL_law_1116 : decode cL_law 1116 = .ok (.iadd, 1) := by decide +kernel
theorem dL_law_1117 : decode cL_law 1117 = .ok (.iaload, 1) := by decide +kernel
theorem dL_law_1118 : decode cL_law 1118 = .ok (.aload_n 0, 1) := by decide +kernel
theorem dL_law_1119 : decode cL_law 1119 = .ok (.iload_n 3, 1) := by decide +kernel
theorem dL_law_1120 : decode cL_law 1120 = .ok (.iconst 2, 1) := by decide +kernel
theorem dL_law_1121 : decode cL_law 1121 = .ok (.iadd, 1) := by decide +kernel
theorem dL_law_1122 : decode cL_law 1122 = .ok (.iaload, 1) := by decide +kernel
theorem dL_law_1123 : decode cL_law 1123 = .ok (.aload_n 0, 1) := by decide +kernel
theorem dL_law_1124 : decode cL_law 1124 = .ok (.iload_n 3, 1) := by decide +kernel
theorem dL_law_1125 : decode cL_law 1125 = .ok (.iconst 3, 1) := by decide +kernel
theorem dL_law_1126 : decode cL_law 1126 = .ok (.iadd, 1) := by decide +kernel
theorem dL_law_1127 : decode cL_law 1127 = .ok (.iaload, 1) := by decide +kernel
theorem dL_law_1128 : decode cL_law 1128 = .ok (.invokevirtual 139, 3) := by decide +kernel
theorem dL_law_1131 : decode cL_law 1131 = .ok (.aload_n 2, 1) := by decide +kernel
theorem dL_law_1132 : decode cL_law 1132 = .ok (.aload_n 0, 1) := by decide +kernel
theorem dL_law_1133 : decode cL_law 1133 = .ok (.iload_n 3, 1) := by decide +kernel
theorem dL_law_1134 : decode cL_law 1134 = .ok (.iconst 1, 1) := by decide +kernel
theorem dL_law_1135 : decode cL_law 1135 = .ok (.iadd, 1) := by decide +kernel
theorem dL_law_1136 : decode cL_law 1136 = .ok (.iaload, 1) := by decide +kernel
theorem dL_law_1137 : decode cL_law 1137 = .ok (.aload_n 0, 1) := by decide +kernel
theorem dL_law_1138 : decode cL_law 1138 = .ok (.iload_n 3, 1) := by decide +kernel
theorem dL_law_1139 : decode cL_law 1139 = .ok (.iconst 2, 1) := by decide +kernel
theorem dL_law_1140 : decode cL_law 1140 = .ok (.iadd, 1) := by decide +kernel
theorem dL_law_1141 : decode cL_law 1141 = .ok (.iaload, 1) := by decide +kernel
theorem dL_law_1142 : decode cL_law 1142 = .ok (.aload_n 0, 1) := by decide +kernel
theorem dL_law_1143 : decode cL_law 1143 = .ok (.iload_n 3, 1) := by decide +kernel
theorem dL_law_1144 : decode cL_law 1144 = .ok (.iconst 3, 1) := by decide +kernel
theorem dL_law_1145 : decode cL_law 1145 = .ok (.iadd, 1) := by decide +kernel
theorem dL_law_1146 : decode cL_law 1146 = .ok (.iaload, 1) := by decide +kernel
theorem dL_law_1147 : decode cL_law 1147 = .ok (.invokevirtual 142, 3) := by decide +kernel
theorem dL_law_1150 : decode cL_law 1150 = .ok (.if_icmp .eq 218, 3) := by decide +kernel
theorem dL_law_1153 : decode cL_law 1153 = .ok (.iconst 0, 1) := by decide +kernel
theorem dL_law_1154 : decode cL_law 1154 = .ok (.ireturn, 1) := by decide +kernel
theorem dL_law_1155 : decode cL_law 1155 = .ok (.aload_n 1, 1) := by decide +kernel
theorem dL_law_1156 : decode cL_law 1156 = .ok (.aload_n 0, 1) := by decide +kernel
theorem dL_law_1157 : decode cL_law 1157 = .ok (.iload_n 3, 1) := by decide +kernel
theorem dL_law_1158 : decode cL_law 1158 = .ok (.iconst 1, 1) := by decide +kernel
theorem dL_law_1159 : decode cL_law 1159 = .ok (.iadd, 1) := by decide +kernel
theorem dL_law_1160 : decode cL_law 1160 = .ok (.iaload, 1) := by decide +kernel
theorem dL_law_1161 : decode cL_law 1161 = .ok (.aload_n 0, 1) := by decide +kernel
theorem dL_law_1162 : decode cL_law 1162 = .ok (.iload_n 3, 1) := by decide +kernel
theorem dL_law_1163 : decode cL_law 1163 = .ok (.iconst 2, 1) := by decide +kernel
theorem dL_law_1164 : decode cL_law 1164 = .ok (.iadd, 1) := by decide +kernel
theorem dL_law_1165 : decode cL_law 1165 = .ok (.iaload, 1) := by decide +kernel
theorem dL_law_1166 : decode cL_law 1166 = .ok (.aload_n 0, 1) := by decide +kernel
theorem dL_law_1167 : decode cL_law 1167 = .ok (.iload_n 3, 1) := by decide +kernel
theorem dL_law_1168 : decode cL_law 1168 = .ok (.iconst 3, 1) := by decide +kernel
theorem dL_law_1169 : decode cL_law 1169 = .ok (.iadd, 1) := by decide +kernel
theorem dL_law_1170 : decode cL_law 1170 = .ok (.iaload, 1) := by decide +kernel
theorem dL_law_1171 : decode cL_law 1171 = .ok (.invokevirtual 143, 3) := by decide +kernel
theorem dL_law_1174 : decode cL_law 1174 = .ok (.aload_n 2, 1) := by decide +kernel
theorem dL_law_1175 : decode cL_law 1175 = .ok (.aload_n 0, 1) := by decide +kernel
theorem dL_law_1176 : decode cL_law 1176 = .ok (.iload_n 3, 1) := by decide +kernel
theorem dL_law_1177 : decode cL_law 1177 = .ok (.iconst 1, 1) := by decide +kernel
theorem dL_law_1178 : decode cL_law 1178 = .ok (.iadd, 1) := by decide +kernel
theorem dL_law_1179 : decode cL_law 1179 = .ok (.iaload, 1) := by decide +kernel
theorem dL_law_1180 : decode cL_law 1180 = .ok (.aload_n 0, 1) := by decide +kernel
theorem dL_law_1181 : decode cL_law 1181 = .ok (.iload_n 3, 1) := by decide +kernel
theorem dL_law_1182 : decode cL_law 1182 = .ok (.iconst 2, 1) := by decide +kernel
theorem dL_law_1183 : decode cL_law 1183 = .ok (.iadd, 1) := by decide +kernel
theorem dL_law_1184 : decode cL_law 1184 = .ok (.iaload, 1) := by decide +kernel
theorem dL_law_1185 : decode cL_law 1185 = .ok (.aload_n 0, 1) := by decide +kernel
theorem dL_law_1186 : decode cL_law 1186 = .ok (.iload_n 3, 1) := by decide +kernel
theorem dL_law_1187 : decode cL_law 1187 = .ok (.iconst 3, 1) := by decide +kernel
theorem dL_law_1188 : decode cL_law 1188 = .ok (.iadd, 1) := by decide +kernel
theorem dL_law_1189 : decode cL_law 1189 = .ok (.iaload, 1) := by decide +kernel
theorem dL_law_1190 : decode cL_law 1190 = .ok (.invokevirtual 146, 3) := by decide +kernel
theorem dL_law_1193 : decode cL_law 1193 = .ok (.if_icmp .eq 175, 3) := by decide +kernel
theorem dL_law_1196 : decode cL_law 1196 = .ok (.iconst 0, 1) := by decide +kernel
theorem dL_law_1197 : decode cL_law 1197 = .ok (.ireturn, 1) := by decide +kernel
theorem dL_law_1198 : decode cL_law 1198 = .ok (.aload_n 1, 1) := by decide +kernel
theorem dL_law_1199 : decode cL_law 1199 = .ok (.aload_n 0, 1) := by decide +kernel
theorem dL_law_1200 : decode cL_law 1200 = .ok (.iload_n 3, 1) := by decide +kernel
theorem dL_law_1201 : decode cL_law 1201 = .ok (.iconst 1, 1) := by decide +kernel
theorem dL_law_1202 : decode cL_law 1202 = .ok (.iadd, 1) := by decide +kernel
theorem dL_law_1203 : decode cL_law 1203 = .ok (.iaload, 1) := by decide +kernel
theorem dL_law_1204 : decode cL_law 1204 = .ok (.invokevirtual 147, 3) := by decide +kernel
theorem dL_law_1207 : decode cL_law 1207 = .ok (.aload_n 2, 1) := by decide +kernel
theorem dL_law_1208 : decode cL_law 1208 = .ok (.aload_n 0, 1) := by decide +kernel
theorem dL_law_1209 : decode cL_law 1209 = .ok (.iload_n 3, 1) := by decide +kernel
theorem dL_law_1210 : decode cL_law 1210 = .ok (.iconst 1, 1) := by decide +kernel
theorem dL_law_1211 : decode cL_law 1211 = .ok (.iadd, 1) := by decide +kernel
theorem dL_law_1212 : decode cL_law 1212 = .ok (.iaload, 1) := by decide +kernel
theorem dL_law_1213 : decode cL_law 1213 = .ok (.invokevirtual 150, 3) := by decide +kernel
theorem dL_law_1216 : decode cL_law 1216 = .ok (.if_icmp .eq 152, 3) := by decide +kernel
theorem dL_law_1219 : decode cL_law 1219 = .ok (.iconst 0, 1) := by decide +kernel
theorem dL_law_1220 : decode cL_law 1220 = .ok (.ireturn, 1) := by decide +kernel
theorem dL_law_1221 : decode cL_law 1221 = .ok (.aload_n 1, 1) := by decide +kernel
theorem dL_law_1222 : decode cL_law 1222 = .ok (.aload_n 0, 1) := by decide +kernel
theorem dL_law_1223 : decode cL_law 1223 = .ok (.iload_n 3, 1) := by decide +kernel
theorem dL_law_1224 : decode cL_law 1224 = .ok (.iconst 1, 1) := by decide +kernel
theorem dL_law_1225 : decode cL_law 1225 = .ok (.iadd, 1) := by decide +kernel
theorem dL_law_1226 : decode cL_law 1226 = .ok (.iaload, 1) := by decide +kernel
theorem dL_law_1227 : decode cL_law 1227 = .ok (.aload_n 0, 1) := by decide +kernel
theorem dL_law_1228 : decode cL_law 1228 = .ok (.iload_n 3, 1) := by decide +kernel
theorem dL_law_1229 : decode cL_law 1229 = .ok (.iconst 2, 1) := by decide +kernel
theorem dL_law_1230 : decode cL_law 1230 = .ok (.iadd, 1) := by decide +kernel
theorem dL_law_1231 : decode cL_law 1231 = .ok (.iaload, 1) := by decide +kernel
theorem dL_law_1232 : decode cL_law 1232 = .ok (.invokevirtual 151, 3) := by decide +kernel
theorem dL_law_1235 : decode cL_law 1235 = .ok (.aload_n 2, 1) := by decide +kernel
theorem dL_law_1236 : decode cL_law 1236 = .ok (.aload_n 0, 1) := by decide +kernel
theorem dL_law_1237 : decode cL_law 1237 = .ok (.iload_n 3, 1) := by decide +kernel
theorem dL_law_1238 : decode cL_law 1238 = .ok (.iconst 1, 1) := by decide +kernel
theorem dL_law_1239 : decode cL_law 1239 = .ok (.iadd, 1) := by decide +kernel
theorem dL_law_1240 : decode cL_law 1240 = .ok (.iaload, 1) := by decide +kernel
theorem dL_law_1241 : decode cL_law 1241 = .ok (.aload_n 0, 1) := by decide +kernel
theorem dL_law_1242 : decode cL_law 1242 = .ok (.iload_n 3, 1) := by decide +kernel
theorem dL_law_1243 : decode cL_law 1243 = .ok (.iconst 2, 1) := by decide +kernel
theorem dL_law_1244 : decode cL_law 1244 = .ok (.iadd, 1) := by decide +kernel
theorem dL_law_1245 : decode cL_law 1245 = .ok (.iaload, 1) := by decide +kernel
theorem dL_law_1246 : decode cL_law 1246 = .ok (.invokevirtual 154, 3) := by decide +kernel
theorem dL_law_1249 : decode cL_law 1249 = .ok (.if_icmp .eq 119, 3) := by decide +kernel
theorem dL_law_1252 : decode cL_law 1252 = .ok (.iconst 0, 1) := by decide +kernel
theorem dL_law_1253 : decode cL_law 1253 = .ok (.ireturn, 1) := by decide +kernel
theorem dL_law_1254 : decode cL_law 1254 = .ok (.aload_n 1, 1) := by decide +kernel
theorem dL_law_1255 : decode cL_law 1255 = .ok (.invokevirtual 155, 3) := by decide +kernel
theorem dL_law_1258 : decode cL_law 1258 = .ok (.aload_n 2, 1) := by decide +kernel
theorem dL_law_1259 : decode cL_law 1259 = .ok (.invokevirtual 158, 3) := by decide +kernel
theorem dL_law_1262 : decode cL_law 1262 = .ok (.if_icmp .eq 106, 3) := by decide +kernel
theorem dL_law_1265 : decode cL_law 1265 = .ok (.iconst 0, 1) := by decide +kernel
theorem dL_law_1266 : decode cL_law 1266 = .ok (.ireturn, 1) := by decide +kernel
theorem dL_law_1267 : decode cL_law 1267 = .ok (.aload_n 1, 1) := by decide +kernel
theorem dL_law_1268 : decode cL_law 1268 = .ok (.invokevirtual 159, 3) := by decide +kernel
theorem dL_law_1271 : decode cL_law 1271 = .ok (.aload_n 2, 1) := by decide +kernel
theorem dL_law_1272 : decode cL_law 1272 = .ok (.invokevirtual 163, 3) := by decide +kernel
theorem dL_law_1275 : decode cL_law 1275 = .ok (.lcmp, 1) := by decide +kernel
theorem dL_law_1276 : decode cL_law 1276 = .ok (.ifCond .eq 92, 3) := by decide +kernel
theorem dL_law_1279 : decode cL_law 1279 = .ok (.iconst 0, 1) := by decide +kernel
theorem dL_law_1280 : decode cL_law 1280 = .ok (.ireturn, 1) := by decide +kernel
theorem dL_law_1281 : decode cL_law 1281 = .ok (.aload_n 1, 1) := by decide +kernel
theorem dL_law_1282 : decode cL_law 1282 = .ok (.invokevirtual 164, 3) := by decide +kernel
theorem dL_law_1285 : decode cL_law 1285 = .ok (.aload_n 2, 1) := by decide +kernel
theorem dL_law_1286 : decode cL_law 1286 = .ok (.invokevirtual 167, 3) := by decide +kernel
theorem dL_law_1289 : decode cL_law 1289 = .ok (.lcmp, 1) := by decide +kernel
theorem dL_law_1290 : decode cL_law 1290 = .ok (.ifCond .eq 78, 3) := by decide +kernel
theorem dL_law_1293 : decode cL_law 1293 = .ok (.iconst 0, 1) := by decide +kernel
theorem dL_law_1294 : decode cL_law 1294 = .ok (.ireturn, 1) := by decide +kernel
theorem dL_law_1295 : decode cL_law 1295 = .ok (.aload_n 1, 1) := by decide +kernel
theorem dL_law_1296 : decode cL_law 1296 = .ok (.aload_n 0, 1) := by decide +kernel
theorem dL_law_1297 : decode cL_law 1297 = .ok (.iload_n 3, 1) := by decide +kernel
theorem dL_law_1298 : decode cL_law 1298 = .ok (.iconst 1, 1) := by decide +kernel
theorem dL_law_1299 : decode cL_law 1299 = .ok (.iadd, 1) := by decide +kernel
theorem dL_law_1300 : decode cL_law 1300 = .ok (.iaload, 1) := by decide +kernel
theorem dL_law_1301 : decode cL_law 1301 = .ok (.invokevirtual 168, 3) := by decide +kernel
theorem dL_law_1304 : decode cL_law 1304 = .ok (.aload_n 2, 1) := by decide +kernel
theorem dL_law_1305 : decode cL_law 1305 = .ok (.aload_n 0, 1) := by decide +kernel
theorem dL_law_1306 : decode cL_law 1306 = .ok (.iload_n 3, 1) := by decide +kernel
theorem dL_law_1307 : decode cL_law 1307 = .ok (.iconst 1, 1) := by decide +kernel
theorem dL_law_1308 : decode cL_law 1308 = .ok (.iadd, 1) := by decide +kernel
theorem dL_law_1309 : decode cL_law 1309 = .ok (.iaload, 1) := by decide +kernel
theorem dL_law_1310 : decode cL_law 1310 = .ok (.invokevirtual 171, 3) := by decide +kernel
theorem dL_law_1313 : decode cL_law 1313 = .ok (.if_icmp .eq 55, 3) := by decide +kernel
theorem dL_law_1316 : decode cL_law 1316 = .ok (.iconst 0, 1) := by decide +kernel
theorem dL_law_1317 : decode cL_law 1317 = .ok (.ireturn, 1) := by decide +kernel
end
section
theorem dL_law_1318 : decode cL_law 1318 = .ok (.aload_n 1, 1) := by decide +kernel
theorem dL_law_1319 : decode cL_law 1319 = .ok (.invokevirtual 172, 3) := by decide +kernel
theorem dL_law_1322 : decode cL_law 1322 = .ok (.aload_n 2, 1) := by decide +kernel
theorem dL_law_1323 : decode cL_law 1323 = .ok (.invokevirtual 175, 3) := by decide +kernel
theorem dL_law_1326 : decode cL_law 1326 = .ok (.if_icmp .eq 42, 3) := by decide +kernel
theorem dL_law_1329 : decode cL_law 1329 = .ok (.iconst 0, 1) := by decide +kernel
theorem dL_law_1330 : decode cL_law 1330 = .ok (.ireturn, 1) := by decide +kernel
theorem dL_law_1331 : decode cL_law 1331 = .ok (.aload_n 1, 1) := by decide +kernel
theorem dL_law_1332 : decode cL_law 1332 = .ok (.aload_n 0, 1) := by decide +kernel
theorem dL_law_1333 : decode cL_law 1333 = .ok (.iload_n 3, 1) := by decide +kernel
theorem dL_law_1334 : decode cL_law 1334 = .ok (.iconst 1, 1) := by decide +kernel
theorem dL_law_1335 : decode cL_law 1335 = .ok (.iadd, 1) := by decide +kernel
theorem dL_law_1336 : decode cL_law 1336 = .ok (.iaload, 1) := by decide +kernel
theorem dL_law_1337 : decode cL_law 1337 = .ok (.invokevirtual 176, 3) := by decide +kernel
theorem dL_law_1340 : decode cL_law 1340 = .ok (.aload_n 2, 1) := by decide +kernel
theorem dL_law_1341 : decode cL_law 1341 = .ok (.aload_n 0, 1) := by decide +kernel
theorem dL_law_1342 : decode cL_law 1342 = .ok (.iload_n 3, 1) := by decide +kernel
theorem dL_law_1343 : decode cL_law 1343 = .ok (.iconst 1, 1) := by decide +kernel
theorem dL_law_1344 : decode cL_law 1344 = .ok (.iadd, 1) := by decide +kernel
theorem dL_law_1345 : decode cL_law 1345 = .ok (.iaload, 1) := by decide +kernel
theorem dL_law_1346 : decode cL_law 1346 = .ok (.invokevirtual 179, 3) := by decide +kernel
theorem dL_law_1349 : decode cL_law 1349 = .ok (.if_icmp .eq 19, 3) := by decide +kernel
theorem dL_law_1352 : decode cL_law 1352 = .ok (.iconst 0, 1) := by decide +kernel
theorem dL_law_1353 : decode cL_law 1353 = .ok (.ireturn, 1) := by decide +kernel
theorem dL_law_1354 : decode cL_law 1354 = .ok (.aload_n 1, 1) := by decide +kernel
theorem dL_law_1355 : decode cL_law 1355 = .ok (.invokevirtual 180, 3) := by decide +kernel
theorem dL_law_1358 : decode cL_law 1358 = .ok (.aload_n 2, 1) := by decide +kernel
theorem dL_law_1359 : decode cL_law 1359 = .ok (.invokevirtual 183, 3) := by decide +kernel
theorem dL_law_1362 : decode cL_law 1362 = .ok (.lcmp, 1) := by decide +kernel
theorem dL_law_1363 : decode cL_law 1363 = .ok (.ifCond .eq 5, 3) := by decide +kernel
theorem dL_law_1366 : decode cL_law 1366 = .ok (.iconst 0, 1) := by decide +kernel
theorem dL_law_1367 : decode cL_law 1367 = .ok (.ireturn, 1) := by decide +kernel
theorem dL_law_1368 : decode cL_law 1368 = .ok (.iinc 3 6, 3) := by decide +kernel
theorem dL_law_1371 : decode cL_law 1371 = .ok (.goto (-1353), 3) := by decide +kernel
theorem dL_law_1374 : decode cL_law 1374 = .ok (.iconst 1, 1) := by decide +kernel
theorem dL_law_1375 : decode cL_law 1375 = .ok (.ireturn, 1) := by decide +kernel
end
section
theorem dX0_init_0 : decode cX0_init 0 = .ok (.aload_n 0, 1) := by decide +kernel
theorem dX0_init_1 : decode cX0_init 1 = .ok (.invokespecial 3, 3) := by decide +kernel
theorem dX0_init_4 : decode cX0_init 4 = .ok (.aload_n 0, 1) := by decide +kernel
theorem dX0_init_5 : decode cX0_init 5 = .ok (.new 9, 3) := by decide +kernel
theorem dX0_init_8 : decode cX0_init 8 = .ok (.dup, 1) := by decide +kernel
theorem dX0_init_9 : decode cX0_init 9 = .ok (.invokespecial 11, 3) := by decide +kernel
theorem dX0_init_12 : decode cX0_init 12 = .ok (.putfield 12, 3) := by decide +kernel
theorem dX0_init_15 : decode cX0_init 15 = .ok (.aload_n 0, 1) := by decide +kernel
theorem dX0_init_16 : decode cX0_init 16 = .ok (.new 9, 3) := by decide +kernel
theorem dX0_init_19 : decode cX0_init 19 = .ok (.dup, 1) := by decide +kernel
theorem dX0_init_20 : decode cX0_init 20 = .ok (.invokespecial 11, 3) := by decide +kernel
theorem dX0_init_23 : decode cX0_init 23 = .ok (.putfield 18, 3) := by decide +kernel
theorem dX0_init_26 : decode cX0_init 26 = .ok (.aload_n 0, 1) := by decide +kernel
theorem dX0_init_27 : decode cX0_init 27 = .ok (.iconst 0, 1) := by decide +kernel
theorem dX0_init_28 : decode cX0_init 28 = .ok (.putfield 21, 3) := by decide +kernel
theorem dX0_init_31 : decode cX0_init 31 = .ok (.aload_n 0, 1) := by decide +kernel
theorem dX0_init_32 : decode cX0_init 32 = .ok (.iconst 0, 1) := by decide +kernel
theorem dX0_init_33 : decode cX0_init 33 = .ok (.putfield 25, 3) := by decide +kernel
theorem dX0_init_36 : decode cX0_init 36 = .ok (.aload_n 0, 1) := by decide +kernel
theorem dX0_init_37 : decode cX0_init 37 = .ok (.bipush 40, 2) := by decide +kernel
theorem dX0_init_39 : decode cX0_init 39 = .ok (.newarray .int, 2) := by decide +kernel
theorem dX0_init_41 : decode cX0_init 41 = .ok (.putfield 28, 3) := by decide +kernel
theorem dX0_init_44 : decode cX0_init 44 = .ok (.aload_n 0, 1) := by decide +kernel
theorem dX0_init_45 : decode cX0_init 45 = .ok (.iconst 3, 1) := by decide +kernel
theorem dX0_init_46 : decode cX0_init 46 = .ok (.bipush 40, 2) := by decide +kernel
theorem dX0_init_48 : decode cX0_init 48 = .ok (.multianewarray 32 2, 4) := by decide +kernel
theorem dX0_init_52 : decode cX0_init 52 = .ok (.putfield 34, 3) := by decide +kernel
theorem dX0_init_55 : decode cX0_init 55 = .ok (.aload_n 0, 1) := by decide +kernel
theorem dX0_init_56 : decode cX0_init 56 = .ok (.iconst 3, 1) := by decide +kernel
theorem dX0_init_57 : decode cX0_init 57 = .ok (.newarray .int, 2) := by decide +kernel
theorem dX0_init_59 : decode cX0_init 59 = .ok (.putfield 37, 3) := by decide +kernel
theorem dX0_init_62 : decode cX0_init 62 = .ok (.aload_n 0, 1) := by decide +kernel
theorem dX0_init_63 : decode cX0_init 63 = .ok (.getfield 37, 3) := by decide +kernel
theorem dX0_init_66 : decode cX0_init 66 = .ok (.iconst (-1), 1) := by decide +kernel
theorem dX0_init_67 : decode cX0_init 67 = .ok (.invokestatic 40, 3) := by decide +kernel
theorem dX0_init_70 : decode cX0_init 70 = .ok (.return_, 1) := by decide +kernel
theorem dX0_found_0 : decode cX0_found 0 = .ok (.aload_n 0, 1) := by decide +kernel
theorem dX0_found_1 : decode cX0_found 1 = .ok (.getfield 12, 3) := by decide +kernel
theorem dX0_found_4 : decode cX0_found 4 = .ok (.aload_n 1, 1) := by decide +kernel
theorem dX0_found_5 : decode cX0_found 5 = .ok (.invokevirtual 46, 3) := by decide +kernel
theorem dX0_found_8 : decode cX0_found 8 = .ok (.aload_n 0, 1) := by decide +kernel
theorem dX0_found_9 : decode cX0_found 9 = .ok (.iconst 0, 1) := by decide +kernel
theorem dX0_found_10 : decode cX0_found 10 = .ok (.invokevirtual 50, 3) := by decide +kernel
theorem dX0_found_13 : decode cX0_found 13 = .ok (.aload_n 0, 1) := by decide +kernel
theorem dX0_found_14 : decode cX0_found 14 = .ok (.getfield 37, 3) := by decide +kernel
theorem dX0_found_17 : decode cX0_found 17 = .ok (.iconst (-1), 1) := by decide +kernel
theorem dX0_found_18 : decode cX0_found 18 = .ok (.invokestatic 40, 3) := by decide +kernel
theorem dX0_found_21 : decode cX0_found 21 = .ok (.return_, 1) := by decide +kernel
theorem dX0_deed_0 : decode cX0_deed 0 = .ok (.iload_n 0, 1) := by decide +kernel
theorem dX0_deed_1 : decode cX0_deed 1 = .ok (.iload_n 1, 1) := by decide +kernel
theorem dX0_deed_2 : decode cX0_deed 2 = .ok (.iconst 3, 1) := by decide +kernel
theorem dX0_deed_3 : decode cX0_deed 3 = .ok (.ishl, 1) := by decide +kernel
theorem dX0_deed_4 : decode cX0_deed 4 = .ok (.ior, 1) := by decide +kernel
theorem dX0_deed_5 : decode cX0_deed 5 = .ok (.iload_n 2, 1) := by decide +kernel
theorem dX0_deed_6 : decode cX0_deed 6 = .ok (.bipush 6, 2) := by decide +kernel
theorem dX0_deed_8 : decode cX0_deed 8 = .ok (.ishl, 1) := by decide +kernel
theorem dX0_deed_9 : decode cX0_deed 9 = .ok (.ior, 1) := by decide +kernel
theorem dX0_deed_10 : decode cX0_deed 10 = .ok (.iload_n 3, 1) := by decide +kernel
theorem dX0_deed_11 : decode cX0_deed 11 = .ok (.bipush 9, 2) := by decide +kernel
theorem dX0_deed_13 : decode cX0_deed 13 = .ok (.ishl, 1) := by decide +kernel
theorem dX0_deed_14 : decode cX0_deed 14 = .ok (.ior, 1) := by decide +kernel
theorem dX0_deed_15 : decode cX0_deed 15 = .ok (.ireturn, 1) := by decide +kernel
theorem dX0_wouldOverflow_0 : decode cX0_wouldOverflow 0 = .ok (.iload_n 1, 1) := by decide +kernel
theorem dX0_wouldOverflow_1 : decode cX0_wouldOverflow 1 = .ok (.bipush 40, 2) := by decide +kernel
theorem dX0_wouldOverflow_3 : decode cX0_wouldOverflow 3 = .ok (.aload_n 0, 1) := by decide +kernel
theorem dX0_wouldOverflow_4 : decode cX0_wouldOverflow 4 = .ok (.getfield 25, 3) := by decide +kernel
theorem dX0_wouldOverflow_7 : decode cX0_wouldOverflow 7 = .ok (.isub, 1) := by decide +kernel
theorem dX0_wouldOverflow_8 : decode cX0_wouldOverflow 8 = .ok (.if_icmp .le 7, 3) := by decide +kernel
theorem dX0_wouldOverflow_11 : decode cX0_wouldOverflow 11 = .ok (.iconst 1, 1) := by decide +kernel
theorem dX0_wouldOverflow_12 : decode cX0_wouldOverflow 12 = .ok (.goto 4, 3) := by decide +kernel
theorem dX0_wouldOverflow_15 : decode cX0_wouldOverflow 15 = .ok (.iconst 0, 1) := by decide +kernel
theorem dX0_wouldOverflow_16 : decode cX0_wouldOverflow 16 = .ok (.ireturn, 1) := by decide +kernel
theorem dX0_enter_0 : decode cX0_enter 0 = .ok (.aload_n 0, 1) := by decide +kernel
theorem dX0_enter_1 : decode cX0_enter 1 = .ok (.iconst 1, 1) := by decide +kernel
theorem dX0_enter_2 : decode cX0_enter 2 = .ok (.invokevirtual 54, 3) := by decide +kernel
theorem dX0_enter_5 : decode cX0_enter 5 = .ok (.ifCond .eq 4, 3) := by decide +kernel
theorem dX0_enter_8 : decode cX0_enter 8 = .ok (.return_, 1) := by decide +kernel
theorem dX0_enter_9 : decode cX0_enter 9 = .ok (.aload_n 0, 1) := by decide +kernel
theorem dX0_enter_10 : decode cX0_enter 10 = .ok (.getfield 28, 3) := by decide +kernel
theorem dX0_enter_13 : decode cX0_enter 13 = .ok (.aload_n 0, 1) := by decide +kernel
theorem dX0_enter_14 : decode cX0_enter 14 = .ok (.getfield 25, 3) := by decide +kernel
theorem dX0_enter_17 : decode cX0_enter 17 = .ok (.iload_n 1, 1) := by decide +kernel
theorem dX0_enter_18 : decode cX0_enter 18 = .ok (.iastore, 1) := by decide +kernel
theorem dX0_enter_19 : decode cX0_enter 19 = .ok (.aload_n 0, 1) := by decide +kernel
theorem dX0_enter_20 : decode cX0_enter 20 = .ok (.dup, 1) := by decide +kernel
theorem dX0_enter_21 : decode cX0_enter 21 = .ok (.getfield 25, 3) := by decide +kernel
theorem dX0_enter_24 : decode cX0_enter 24 = .ok (.iconst 1, 1) := by decide +kernel
theorem dX0_enter_25 : decode cX0_enter 25 = .ok (.iadd, 1) := by decide +kernel
theorem dX0_enter_26 : decode cX0_enter 26 = .ok (.putfield 25, 3) := by decide +kernel
theorem dX0_enter_29 : decode cX0_enter 29 = .ok (.aload_n 0, 1) := by decide +kernel
theorem dX0_enter_30 : decode cX0_enter 30 = .ok (.iload_n 1, 1) := by decide +kernel
theorem dX0_enter_31 : decode cX0_enter 31 = .ok (.invokevirtual 58, 3) := by decide +kernel
theorem dX0_enter_34 : decode cX0_enter 34 = .ok (.return_, 1) := by decide +kernel
theorem dX0_perform_0 : decode cX0_perform 0 = .ok (.iload_n 1, 1) := by decide +kernel
theorem dX0_perform_1 : decode cX0_perform 1 = .ok (.iconst 3, 1) := by decide +kernel
theorem dX0_perform_2 : decode cX0_perform 2 = .ok (.ishr, 1) := by decide +kernel
theorem dX0_perform_3 : decode cX0_perform 3 = .ok (.bipush 7, 2) := by decide +kernel
theorem dX0_perform_5 : decode cX0_perform 5 = .ok (.iand, 1) := by decide +kernel
theorem dX0_perform_6 : decode cX0_perform 6 = .ok (.istore_n 2, 1) := by decide +kernel
theorem dX0_perform_7 : decode cX0_perform 7 = .ok (.iload_n 1, 1) := by decide +kernel
theorem dX0_perform_8 : decode cX0_perform 8 = .ok (.bipush 6, 2) := by decide +kernel
theorem dX0_perform_10 : decode cX0_perform 10 = .ok (.ishr, 1) := by decide +kernel
theorem dX0_perform_11 : decode cX0_perform 11 = .ok (.bipush 7, 2) := by decide +kernel
theorem dX0_perform_13 : decode cX0_perform 13 = .ok (.iand, 1) := by decide +kernel
theorem dX0_perform_14 : decode cX0_perform 14 = .ok (.istore_n 3, 1) := by decide +kernel
theorem dX0_perform_15 : decode cX0_perform 15 = .ok (.iload_n 1, 1) := by decide +kernel
theorem dX0_perform_16 : decode cX0_perform 16 = .ok (.bipush 9, 2) := by decide +kernel
theorem dX0_perform_18 : decode cX0_perform 18 = .ok (.ishr, 1) := by decide +kernel
theorem dX0_perform_19 : decode cX0_perform 19 = .ok (.istore 4, 2) := by decide +kernel
theorem dX0_perform_21 : decode cX0_perform 21 = .ok (.iload_n 2, 1) := by decide +kernel
theorem dX0_perform_22 : decode cX0_perform 22 = .ok (.aload_n 0, 1) := by decide +kernel
theorem dX0_perform_23 : decode cX0_perform 23 = .ok (.getfield 18, 3) := by decide +kernel
theorem dX0_perform_26 : decode cX0_perform 26 = .ok (.getfield 61, 3) := by decide +kernel
theorem dX0_perform_29 : decode cX0_perform 29 = .ok (.if_icmp .ge 14, 3) := by decide +kernel
theorem dX0_perform_32 : decode cX0_perform 32 = .ok (.iload_n 3, 1) := by decide +kernel
theorem dX0_perform_33 : decode cX0_perform 33 = .ok (.aload_n 0, 1) := by decide +kernel
theorem dX0_perform_34 : decode cX0_perform 34 = .ok (.getfield 18, 3) := by decide +kernel
theorem dX0_perform_37 : decode cX0_perform 37 = .ok (.getfield 61, 3) := by decide +kernel
theorem dX0_perform_40 : decode cX0_perform 40 = .ok (.if_icmp .lt 4, 3) := by decide +kernel
theorem dX0_perform_43 : decode cX0_perform 43 = .ok (.return_, 1) := by decide +kernel
theorem dX0_perform_44 : decode cX0_perform 44 = .ok (.iload_n 1, 1) := by decide +kernel
theorem dX0_perform_45 : decode cX0_perform 45 = .ok (.bipush 7, 2) := by decide +kernel
theorem dX0_perform_47 : decode cX0_perform 47 = .ok (.iand, 1) := by decide +kernel
theorem dX0_perform_48 : decode cX0_perform 48 = .ok (.tableswitch 125 0 3 #[32, 53, 69, 82], 32) := by decide +kernel
theorem dX0_perform_80 : decode cX0_perform 80 = .ok (.aload_n 0, 1) := by decide +kernel
theorem dX0_perform_81 : decode cX0_perform 81 = .ok (.getfield 18, 3) := by decide +kernel
theorem dX0_perform_84 : decode cX0_perform 84 = .ok (.invokevirtual 64, 3) := by decide +kernel
theorem dX0_perform_87 : decode cX0_perform 87 = .ok (.pop, 1) := by decide +kernel
theorem dX0_perform_88 : decode cX0_perform 88 = .ok (.aload_n 0, 1) := by decide +kernel
theorem dX0_perform_89 : decode cX0_perform 89 = .ok (.dup, 1) := by decide +kernel
theorem dX0_perform_90 : decode cX0_perform 90 = .ok (.getfield 21, 3) := by decide +kernel
theorem dX0_perform_93 : decode cX0_perform 93 = .ok (.iconst 1, 1) := by decide +kernel
theorem dX0_perform_94 : decode cX0_perform 94 = .ok (.iadd, 1) := by decide +kernel
theorem dX0_perform_95 : decode cX0_perform 95 = .ok (.putfield 21, 3) := by decide +kernel
theorem dX0_perform_98 : decode cX0_perform 98 = .ok (.goto 75, 3) := by decide +kernel
theorem dX0_perform_101 : decode cX0_perform 101 = .ok (.aload_n 0, 1) := by decide +kernel
theorem dX0_perform_102 : decode cX0_perform 102 = .ok (.getfield 18, 3) := by decide +kernel
theorem dX0_perform_105 : decode cX0_perform 105 = .ok (.getfield 68, 3) := by decide +kernel
theorem dX0_perform_108 : decode cX0_perform 108 = .ok (.iload_n 2, 1) := by decide +kernel
theorem dX0_perform_109 : decode cX0_perform 109 = .ok (.dup2, 1) := by decide +kernel
theorem dX0_perform_110 : decode cX0_perform 110 = .ok (.iaload, 1) := by decide +kernel
theorem dX0_perform_111 : decode cX0_perform 111 = .ok (.iconst 1, 1) := by decide +kernel
theorem dX0_perform_112 : decode cX0_perform 112 = .ok (.iadd, 1) := by decide +kernel
theorem dX0_perform_113 : decode cX0_perform 113 = .ok (.iastore, 1) := by decide +kernel
theorem dX0_perform_114 : decode cX0_perform 114 = .ok (.goto 59, 3) := by decide +kernel
theorem dX0_perform_117 : decode cX0_perform 117 = .ok (.aload_n 0, 1) := by decide +kernel
theorem dX0_perform_118 : decode cX0_perform 118 = .ok (.getfield 18, 3) := by decide +kernel
theorem dX0_perform_121 : decode cX0_perform 121 = .ok (.getfield 68, 3) := by decide +kernel
theorem dX0_perform_124 : decode cX0_perform 124 = .ok (.iload_n 2, 1) := by decide +kernel
theorem dX0_perform_125 : decode cX0_perform 125 = .ok (.iconst 0, 1) := by decide +kernel
theorem dX0_perform_126 : decode cX0_perform 126 = .ok (.iastore, 1) := by decide +kernel
theorem dX0_perform_127 : decode cX0_perform 127 = .ok (.goto 46, 3) := by decide +kernel
theorem dX0_perform_130 : decode cX0_perform 130 = .ok (.aload_n 0, 1) := by decide +kernel
theorem dX0_perform_131 : decode cX0_perform 131 = .ok (.getfield 18, 3) := by decide +kernel
theorem dX0_perform_134 : decode cX0_perform 134 = .ok (.getfield 71, 3) := by decide +kernel
theorem dX0_perform_137 : decode cX0_perform 137 = .ok (.iload_n 2, 1) := by decide +kernel
theorem dX0_perform_138 : decode cX0_perform 138 = .ok (.dup2, 1) := by decide +kernel
theorem dX0_perform_139 : decode cX0_perform 139 = .ok (.iaload, 1) := by decide +kernel
theorem dX0_perform_140 : decode cX0_perform 140 = .ok (.iload 4, 2) := by decide +kernel
theorem dX0_perform_142 : decode cX0_perform 142 = .ok (.isub, 1) := by decide +kernel
theorem dX0_perform_143 : decode cX0_perform 143 = .ok (.iastore, 1) := by decide +kernel
theorem dX0_perform_144 : decode cX0_perform 144 = .ok (.aload_n 0, 1) := by decide +kernel
theorem dX0_perform_145 : decode cX0_perform 145 = .ok (.getfield 18, 3) := by decide +kernel
theorem dX0_perform_148 : decode cX0_perform 148 = .ok (.getfield 71, 3) := by decide +kernel
theorem dX0_perform_151 : decode cX0_perform 151 = .ok (.iload_n 3, 1) := by decide +kernel
theorem dX0_perform_152 : decode cX0_perform 152 = .ok (.bipush 99, 2) := by decide +kernel
theorem dX0_perform_154 : decode cX0_perform 154 = .ok (.aload_n 0, 1) := by decide +kernel
theorem dX0_perform_155 : decode cX0_perform 155 = .ok (.getfield 18, 3) := by decide +kernel
theorem dX0_perform_158 : decode cX0_perform 158 = .ok (.getfield 71, 3) := by decide +kernel
theorem dX0_perform_161 : decode cX0_perform 161 = .ok (.iload_n 3, 1) := by decide +kernel
theorem dX0_perform_162 : decode cX0_perform 162 = .ok (.iaload, 1) := by decide +kernel
theorem dX0_perform_163 : decode cX0_perform 163 = .ok (.iload 4, 2) := by decide +kernel
theorem dX0_perform_165 : decode cX0_perform 165 = .ok (.iadd, 1) := by decide +kernel
theorem dX0_perform_166 : decode cX0_perform 166 = .ok (.invokestatic 74, 3) := by decide +kernel
theorem dX0_perform_169 : decode cX0_perform 169 = .ok (.iastore, 1) := by decide +kernel
theorem dX0_perform_170 : decode cX0_perform 170 = .ok (.goto 3, 3) := by decide +kernel
theorem dX0_perform_173 : decode cX0_perform 173 = .ok (.return_, 1) := by decide +kernel
theorem dX0_replay_0 : decode cX0_replay 0 = .ok (.aload_n 0, 1) := by decide +kernel
theorem dX0_replay_1 : decode cX0_replay 1 = .ok (.getfield 18, 3) := by decide +kernel
theorem dX0_replay_4 : decode cX0_replay 4 = .ok (.aload_n 0, 1) := by decide +kernel
theorem dX0_replay_5 : decode cX0_replay 5 = .ok (.getfield 12, 3) := by decide +kernel
theorem dX0_replay_8 : decode cX0_replay 8 = .ok (.invokevirtual 46, 3) := by decide +kernel
theorem dX0_replay_11 : decode cX0_replay 11 = .ok (.aload_n 0, 1) := by decide +kernel
theorem dX0_replay_12 : decode cX0_replay 12 = .ok (.iconst 0, 1) := by decide +kernel
theorem dX0_replay_13 : decode cX0_replay 13 = .ok (.putfield 21, 3) := by decide +kernel
theorem dX0_replay_16 : decode cX0_replay 16 = .ok (.aload_n 0, 1) := by decide +kernel
theorem dX0_replay_17 : decode cX0_replay 17 = .ok (.iload_n 1, 1) := by decide +kernel
theorem dX0_replay_18 : decode cX0_replay 18 = .ok (.putfield 25, 3) := by decide +kernel
theorem dX0_replay_21 : decode cX0_replay 21 = .ok (.iconst 0, 1) := by decide +kernel
theorem dX0_replay_22 : decode cX0_replay 22 = .ok (.istore_n 2, 1) := by decide +kernel
theorem dX0_replay_23 : decode cX0_replay 23 = .ok (.iload_n 2, 1) := by decide +kernel
theorem dX0_replay_24 : decode cX0_replay 24 = .ok (.iload_n 1, 1) := by decide +kernel
theorem dX0_replay_25 : decode cX0_replay 25 = .ok (.if_icmp .ge 19, 3) := by decide +kernel
theorem dX0_replay_28 : decode cX0_replay 28 = .ok (.aload_n 0, 1) := by decide +kernel
theorem dX0_replay_29 : decode cX0_replay 29 = .ok (.aload_n 0, 1) := by decide +kernel
theorem dX0_replay_30 : decode cX0_replay 30 = .ok (.getfield 28, 3) := by decide +kernel
theorem dX0_replay_33 : decode cX0_replay 33 = .ok (.iload_n 2, 1) := by decide +kernel
theorem dX0_replay_34 : decode cX0_replay 34 = .ok (.iaload, 1) := by decide +kernel
theorem dX0_replay_35 : decode cX0_replay 35 = .ok (.invokevirtual 58, 3) := by decide +kernel
theorem dX0_replay_38 : decode cX0_replay 38 = .ok (.iinc 2 1, 3) := by decide +kernel
theorem dX0_replay_41 : decode cX0_replay 41 = .ok (.goto (-18), 3) := by decide +kernel
theorem dX0_replay_44 : decode cX0_replay 44 = .ok (.return_, 1) := by decide +kernel
theorem dX0_store_0 : decode cX0_store 0 = .ok (.aload_n 0, 1) := by decide +kernel
theorem dX0_store_1 : decode cX0_store 1 = .ok (.getfield 28, 3) := by decide +kernel
theorem dX0_store_4 : decode cX0_store 4 = .ok (.iconst 0, 1) := by decide +kernel
theorem dX0_store_5 : decode cX0_store 5 = .ok (.aload_n 0, 1) := by decide +kernel
theorem dX0_store_6 : decode cX0_store 6 = .ok (.getfield 34, 3) := by decide +kernel
theorem dX0_store_9 : decode cX0_store 9 = .ok (.iload_n 1, 1) := by decide +kernel
theorem dX0_store_10 : decode cX0_store 10 = .ok (.aaload, 1) := by decide +kernel
theorem dX0_store_11 : decode cX0_store 11 = .ok (.iconst 0, 1) := by decide +kernel
theorem dX0_store_12 : decode cX0_store 12 = .ok (.bipush 40, 2) := by decide +kernel
theorem dX0_store_14 : decode cX0_store 14 = .ok (.invokestatic 80, 3) := by decide +kernel
theorem dX0_store_17 : decode cX0_store 17 = .ok (.aload_n 0, 1) := by decide +kernel
theorem dX0_store_18 : decode cX0_store 18 = .ok (.getfield 37, 3) := by decide +kernel
theorem dX0_store_21 : decode cX0_store 21 = .ok (.iload_n 1, 1) := by decide +kernel
theorem dX0_store_22 : decode cX0_store 22 = .ok (.aload_n 0, 1) := by decide +kernel
theorem dX0_store_23 : decode cX0_store 23 = .ok (.getfield 25, 3) := by decide +kernel
theorem dX0_store_26 : decode cX0_store 26 = .ok (.iastore, 1) := by decide +kernel
theorem dX0_store_27 : decode cX0_store 27 = .ok (.return_, 1) := by decide +kernel
theorem dX0_restore_0 : decode cX0_restore 0 = .ok (.aload_n 0, 1) := by decide +kernel
theorem dX0_restore_1 : decode cX0_restore 1 = .ok (.getfield 34, 3) := by decide +kernel
theorem dX0_restore_4 : decode cX0_restore 4 = .ok (.iload_n 1, 1) := by decide +kernel
theorem dX0_restore_5 : decode cX0_restore 5 = .ok (.aaload, 1) := by decide +kernel
theorem dX0_restore_6 : decode cX0_restore 6 = .ok (.iconst 0, 1) := by decide +kernel
theorem dX0_restore_7 : decode cX0_restore 7 = .ok (.aload_n 0, 1) := by decide +kernel
theorem dX0_restore_8 : decode cX0_restore 8 = .ok (.getfield 28, 3) := by decide +kernel
theorem dX0_restore_11 : decode cX0_restore 11 = .ok (.iconst 0, 1) := by decide +kernel
theorem dX0_restore_12 : decode cX0_restore 12 = .ok (.bipush 40, 2) := by decide +kernel
theorem dX0_restore_14 : decode cX0_restore 14 = .ok (.invokestatic 80, 3) := by decide +kernel
theorem dX0_restore_17 : decode cX0_restore 17 = .ok (.aload_n 0, 1) := by decide +kernel
theorem dX0_restore_18 : decode cX0_restore 18 = .ok (.aload_n 0, 1) := by decide +kernel
theorem dX0_restore_19 : decode cX0_restore 19 = .ok (.getfield 37, 3) := by decide +kernel
theorem dX0_restore_22 : decode cX0_restore 22 = .ok (.iload_n 1, 1) := by decide +kernel
theorem dX0_restore_23 : decode cX0_restore 23 = .ok (.iaload, 1) := by decide +kernel
theorem dX0_restore_24 : decode cX0_restore 24 = .ok (.invokevirtual 50, 3) := by decide +kernel
theorem dX0_restore_27 : decode cX0_restore 27 = .ok (.return_, 1) := by decide +kernel
theorem dX0_allKept_0 : decode cX0_allKept 0 = .ok (.iconst 0, 1) := by decide +kernel
theorem dX0_allKept_1 : decode cX0_allKept 1 = .ok (.istore_n 1, 1) := by decide +kernel
theorem dX0_allKept_2 : decode cX0_allKept 2 = .ok (.iconst 0, 1) := by decide +kernel
theorem dX0_allKept_3 : decode cX0_allKept 3 = .ok (.istore_n 2, 1) := by decide +kernel
theorem dX0_allKept_4 : decode cX0_allKept 4 = .ok (.iload_n 2, 1) := by decide +kernel
theorem dX0_allKept_5 : decode cX0_allKept 5 = .ok (.iconst 3, 1) := by decide +kernel
theorem dX0_allKept_6 : decode cX0_allKept 6 = .ok (.if_icmp .ge 22, 3) := by decide +kernel
theorem dX0_allKept_9 : decode cX0_allKept 9 = .ok (.aload_n 0, 1) := by decide +kernel
theorem dX0_allKept_10 : decode cX0_allKept 10 = .ok (.getfield 37, 3) := by decide +kernel
theorem dX0_allKept_13 : decode cX0_allKept 13 = .ok (.iload_n 2, 1) := by decide +kernel
theorem dX0_allKept_14 : decode cX0_allKept 14 = .ok (.iaload, 1) := by decide +kernel
theorem dX0_allKept_15 : decode cX0_allKept 15 = .ok (.iconst (-1), 1) := by decide +kernel
theorem dX0_allKept_16 : decode cX0_allKept 16 = .ok (.if_icmp .eq 6, 3) := by decide +kernel
theorem dX0_allKept_19 : decode cX0_allKept 19 = .ok (.iinc 1 1, 3) := by decide +kernel
theorem dX0_allKept_22 : decode cX0_allKept 22 = .ok (.iinc 2 1, 3) := by decide +kernel
theorem dX0_allKept_25 : decode cX0_allKept 25 = .ok (.goto (-21), 3) := by decide +kernel
theorem dX0_allKept_28 : decode cX0_allKept 28 = .ok (.iload_n 1, 1) := by decide +kernel
theorem dX0_allKept_29 : decode cX0_allKept 29 = .ok (.ireturn, 1) := by decide +kernel
end
section
theorem dX1_init_0 : decode cX1_init 0 = .ok (.aload_n 0, 1) := by decide +kernel
theorem dX1_init_1 : decode cX1_init 1 = .ok (.invokespecial 3, 3) := by decide +kernel
theorem dX1_init_4 : decode cX1_init 4 = .ok (.aload_n 0, 1) := by decide +kernel
theorem dX1_init_5 : decode cX1_init 5 = .ok (.iconst 0, 1) := by decide +kernel
theorem dX1_init_6 : decode cX1_init 6 = .ok (.putfield 9, 3) := by decide +kernel
theorem dX1_init_9 : decode cX1_init 9 = .ok (.aload_n 0, 1) := by decide +kernel
theorem dX1_init_10 : decode cX1_init 10 = .ok (.bipush 6, 2) := by decide +kernel
theorem dX1_init_12 : decode cX1_init 12 = .ok (.newarray .int, 2) := by decide +kernel
theorem dX1_init_14 : decode cX1_init 14 = .ok (.putfield 15, 3) := by decide +kernel
theorem dX1_init_17 : decode cX1_init 17 = .ok (.aload_n 0, 1) := by decide +kernel
theorem dX1_init_18 : decode cX1_init 18 = .ok (.bipush 6, 2) := by decide +kernel
theorem dX1_init_20 : decode cX1_init 20 = .ok (.newarray .int, 2) := by decide +kernel
theorem dX1_init_22 : decode cX1_init 22 = .ok (.putfield 19, 3) := by decide +kernel
theorem dX1_init_25 : decode cX1_init 25 = .ok (.aload_n 0, 1) := by decide +kernel
theorem dX1_init_26 : decode cX1_init 26 = .ok (.bipush 6, 2) := by decide +kernel
theorem dX1_init_28 : decode cX1_init 28 = .ok (.newarray .int, 2) := by decide +kernel
theorem dX1_init_30 : decode cX1_init 30 = .ok (.putfield 22, 3) := by decide +kernel
theorem dX1_init_33 : decode cX1_init 33 = .ok (.aload_n 0, 1) := by decide +kernel
theorem dX1_init_34 : decode cX1_init 34 = .ok (.bipush 6, 2) := by decide +kernel
theorem dX1_init_36 : decode cX1_init 36 = .ok (.newarray .int, 2) := by decide +kernel
theorem dX1_init_38 : decode cX1_init 38 = .ok (.putfield 25, 3) := by decide +kernel
theorem dX1_init_41 : decode cX1_init 41 = .ok (.aload_n 0, 1) := by decide +kernel
theorem dX1_init_42 : decode cX1_init 42 = .ok (.bipush 6, 2) := by decide +kernel
theorem dX1_init_44 : decode cX1_init 44 = .ok (.newarray .int, 2) := by decide +kernel
theorem dX1_init_46 : decode cX1_init 46 = .ok (.putfield 28, 3) := by decide +kernel
theorem dX1_init_49 : decode cX1_init 49 = .ok (.aload_n 0, 1) := by decide +kernel
theorem dX1_init_50 : decode cX1_init 50 = .ok (.bipush 6, 2) := by decide +kernel
theorem dX1_init_52 : decode cX1_init 52 = .ok (.newarray .int, 2) := by decide +kernel
theorem dX1_init_54 : decode cX1_init 54 = .ok (.putfield 31, 3) := by decide +kernel
theorem dX1_init_57 : decode cX1_init 57 = .ok (.aload_n 0, 1) := by decide +kernel
theorem dX1_init_58 : decode cX1_init 58 = .ok (.bipush 6, 2) := by decide +kernel
theorem dX1_init_60 : decode cX1_init 60 = .ok (.newarray .int, 2) := by decide +kernel
theorem dX1_init_62 : decode cX1_init 62 = .ok (.putfield 34, 3) := by decide +kernel
theorem dX1_init_65 : decode cX1_init 65 = .ok (.aload_n 0, 1) := by decide +kernel
theorem dX1_init_66 : decode cX1_init 66 = .ok (.iconst 0, 1) := by decide +kernel
theorem dX1_init_67 : decode cX1_init 67 = .ok (.putfield 37, 3) := by decide +kernel
theorem dX1_init_70 : decode cX1_init 70 = .ok (.aload_n 0, 1) := by decide +kernel
theorem dX1_init_71 : decode cX1_init 71 = .ok (.iconst 0, 1) := by decide +kernel
theorem dX1_init_72 : decode cX1_init 72 = .ok (.putfield 40, 3) := by decide +kernel
theorem dX1_init_75 : decode cX1_init 75 = .ok (.return_, 1) := by decide +kernel
theorem dX1_take_0 : decode cX1_take 0 = .ok (.aload_n 0, 1) := by decide +kernel
theorem dX1_take_1 : decode cX1_take 1 = .ok (.aload_n 1, 1) := by decide +kernel
theorem dX1_take_2 : decode cX1_take 2 = .ok (.getfield 9, 3) := by decide +kernel
theorem dX1_take_5 : decode cX1_take 5 = .ok (.putfield 9, 3) := by decide +kernel
theorem dX1_take_8 : decode cX1_take 8 = .ok (.aload_n 1, 1) := by decide +kernel
theorem dX1_take_9 : decode cX1_take 9 = .ok (.getfield 15, 3) := by decide +kernel
theorem dX1_take_12 : decode cX1_take 12 = .ok (.iconst 0, 1) := by decide +kernel
theorem dX1_take_13 : decode cX1_take 13 = .ok (.aload_n 0, 1) := by decide +kernel
theorem dX1_take_14 : decode cX1_take 14 = .ok (.getfield 15, 3) := by decide +kernel
theorem dX1_take_17 : decode cX1_take 17 = .ok (.iconst 0, 1) := by decide +kernel
theorem dX1_take_18 : decode cX1_take 18 = .ok (.bipush 6, 2) := by decide +kernel
theorem dX1_take_20 : decode cX1_take 20 = .ok (.invokestatic 43, 3) := by decide +kernel
theorem dX1_take_23 : decode cX1_take 23 = .ok (.aload_n 1, 1) := by decide +kernel
theorem dX1_take_24 : decode cX1_take 24 = .ok (.getfield 19, 3) := by decide +kernel
theorem dX1_take_27 : decode cX1_take 27 = .ok (.iconst 0, 1) := by decide +kernel
theorem dX1_take_28 : decode cX1_take 28 = .ok (.aload_n 0, 1) := by decide +kernel
theorem dX1_take_29 : decode cX1_take 29 = .ok (.getfield 19, 3) := by decide +kernel
theorem dX1_take_32 : decode cX1_take 32 = .ok (.iconst 0, 1) := by decide +kernel
theorem dX1_take_33 : decode cX1_take 33 = .ok (.bipush 6, 2) := by decide +kernel
theorem dX1_take_35 : decode cX1_take 35 = .ok (.invokestatic 43, 3) := by decide +kernel
theorem dX1_take_38 : decode cX1_take 38 = .ok (.aload_n 1, 1) := by decide +kernel
theorem dX1_take_39 : decode cX1_take 39 = .ok (.getfield 22, 3) := by decide +kernel
theorem dX1_take_42 : decode cX1_take 42 = .ok (.iconst 0, 1) := by decide +kernel
theorem dX1_take_43 : decode cX1_take 43 = .ok (.aload_n 0, 1) := by decide +kernel
theorem dX1_take_44 : decode cX1_take 44 = .ok (.getfield 22, 3) := by decide +kernel
theorem dX1_take_47 : decode cX1_take 47 = .ok (.iconst 0, 1) := by decide +kernel
theorem dX1_take_48 : decode cX1_take 48 = .ok (.bipush 6, 2) := by decide +kernel
theorem dX1_take_50 : decode cX1_take 50 = .ok (.invokestatic 43, 3) := by decide +kernel
theorem dX1_take_53 : decode cX1_take 53 = .ok (.aload_n 1, 1) := by decide +kernel
theorem dX1_take_54 : decode cX1_take 54 = .ok (.getfield 25, 3) := by decide +kernel
theorem dX1_take_57 : decode cX1_take 57 = .ok (.iconst 0, 1) := by decide +kernel
theorem dX1_take_58 : decode cX1_take 58 = .ok (.aload_n 0, 1) := by decide +kernel
theorem dX1_take_59 : decode cX1_take 59 = .ok (.getfield 25, 3) := by decide +kernel
theorem dX1_take_62 : decode cX1_take 62 = .ok (.iconst 0, 1) := by decide +kernel
theorem dX1_take_63 : decode cX1_take 63 = .ok (.bipush 6, 2) := by decide +kernel
theorem dX1_take_65 : decode cX1_take 65 = .ok (.invokestatic 43, 3) := by decide +kernel
theorem dX1_take_68 : decode cX1_take 68 = .ok (.aload_n 1, 1) := by decide +kernel
theorem dX1_take_69 : decode cX1_take 69 = .ok (.getfield 28, 3) := by decide +kernel
theorem dX1_take_72 : decode cX1_take 72 = .ok (.iconst 0, 1) := by decide +kernel
theorem dX1_take_73 : decode cX1_take 73 = .ok (.aload_n 0, 1) := by decide +kernel
theorem dX1_take_74 : decode cX1_take 74 = .ok (.getfield 28, 3) := by decide +kernel
theorem dX1_take_77 : decode cX1_take 77 = .ok (.iconst 0, 1) := by decide +kernel
theorem dX1_take_78 : decode cX1_take 78 = .ok (.bipush 6, 2) := by decide +kernel
theorem dX1_take_80 : decode cX1_take 80 = .ok (.invokestatic 43, 3) := by decide +kernel
theorem dX1_take_83 : decode cX1_take 83 = .ok (.return_, 1) := by decide +kernel
theorem dX1_read_0 : decode cX1_read 0 = .ok (.aload_n 0, 1) := by decide +kernel
theorem dX1_read_1 : decode cX1_read 1 = .ok (.iconst 0, 1) := by decide +kernel
theorem dX1_read_2 : decode cX1_read 2 = .ok (.putfield 9, 3) := by decide +kernel
theorem dX1_read_5 : decode cX1_read 5 = .ok (.iconst 0, 1) := by decide +kernel
theorem dX1_read_6 : decode cX1_read 6 = .ok (.istore_n 3, 1) := by decide +kernel
theorem dX1_read_7 : decode cX1_read 7 = .ok (.iload_n 3, 1) := by decide +kernel
theorem dX1_read_8 : decode cX1_read 8 = .ok (.iload_n 2, 1) := by decide +kernel
theorem dX1_read_9 : decode cX1_read 9 = .ok (.if_icmp .ge 55, 3) := by decide +kernel
theorem dX1_read_12 : decode cX1_read 12 = .ok (.aload_n 1, 1) := by decide +kernel
theorem dX1_read_13 : decode cX1_read 13 = .ok (.iload_n 3, 1) := by decide +kernel
theorem dX1_read_14 : decode cX1_read 14 = .ok (.iaload, 1) := by decide +kernel
theorem dX1_read_15 : decode cX1_read 15 = .ok (.bipush 32, 2) := by decide +kernel
theorem dX1_read_17 : decode cX1_read 17 = .ok (.if_icmp .ne 9, 3) := by decide +kernel
theorem dX1_read_20 : decode cX1_read 20 = .ok (.iinc 3 1, 3) := by decide +kernel
theorem dX1_read_23 : decode cX1_read 23 = .ok (.goto (-16), 3) := by decide +kernel
theorem dX1_read_26 : decode cX1_read 26 = .ok (.aload_n 0, 1) := by decide +kernel
theorem dX1_read_27 : decode cX1_read 27 = .ok (.getfield 9, 3) := by decide +kernel
theorem dX1_read_30 : decode cX1_read 30 = .ok (.bipush 6, 2) := by decide +kernel
theorem dX1_read_32 : decode cX1_read 32 = .ok (.if_icmp .ne 7, 3) := by decide +kernel
theorem dX1_read_35 : decode cX1_read 35 = .ok (.iload_n 3, 1) := by decide +kernel
theorem dX1_read_36 : decode cX1_read 36 = .ok (.goto 10, 3) := by decide +kernel
theorem dX1_read_39 : decode cX1_read 39 = .ok (.aload_n 0, 1) := by decide +kernel
theorem dX1_read_40 : decode cX1_read 40 = .ok (.aload_n 1, 1) := by decide +kernel
theorem dX1_read_41 : decode cX1_read 41 = .ok (.iload_n 2, 1) := by decide +kernel
theorem dX1_read_42 : decode cX1_read 42 = .ok (.iload_n 3, 1) := by decide +kernel
theorem dX1_read_43 : decode cX1_read 43 = .ok (.invokevirtual 49, 3) := by decide +kernel
theorem dX1_read_46 : decode cX1_read 46 = .ok (.istore 4, 2) := by decide +kernel
theorem dX1_read_48 : decode cX1_read 48 = .ok (.iload 4, 2) := by decide +kernel
theorem dX1_read_50 : decode cX1_read 50 = .ok (.bipush (-9), 2) := by decide +kernel
theorem dX1_read_52 : decode cX1_read 52 = .ok (.if_icmp .eq 6, 3) := by decide +kernel
theorem dX1_read_55 : decode cX1_read 55 = .ok (.iload 4, 2) := by decide +kernel
theorem dX1_read_57 : decode cX1_read 57 = .ok (.ireturn, 1) := by decide +kernel
theorem dX1_read_58 : decode cX1_read 58 = .ok (.iinc 3 5, 3) := by decide +kernel
theorem dX1_read_61 : decode cX1_read 61 = .ok (.goto (-54), 3) := by decide +kernel
theorem dX1_read_64 : decode cX1_read 64 = .ok (.aload_n 0, 1) := by decide +kernel
theorem dX1_read_65 : decode cX1_read 65 = .ok (.getfield 9, 3) := by decide +kernel
theorem dX1_read_68 : decode cX1_read 68 = .ok (.iconst 2, 1) := by decide +kernel
theorem dX1_read_69 : decode cX1_read 69 = .ok (.if_icmp .ge 7, 3) := by decide +kernel
theorem dX1_read_72 : decode cX1_read 72 = .ok (.iload_n 2, 1) := by decide +kernel
theorem dX1_read_73 : decode cX1_read 73 = .ok (.goto 5, 3) := by decide +kernel
theorem dX1_read_76 : decode cX1_read 76 = .ok (.bipush (-9), 2) := by decide +kernel
theorem dX1_read_78 : decode cX1_read 78 = .ok (.ireturn, 1) := by decide +kernel
theorem dX1_readItem_0 : decode cX1_readItem 0 = .ok (.aload_n 1, 1) := by decide +kernel
theorem dX1_readItem_1 : decode cX1_readItem 1 = .ok (.iload_n 3, 1) := by decide +kernel
theorem dX1_readItem_2 : decode cX1_readItem 2 = .ok (.iaload, 1) := by decide +kernel
theorem dX1_readItem_3 : decode cX1_readItem 3 = .ok (.invokestatic 53, 3) := by decide +kernel
theorem dX1_readItem_6 : decode cX1_readItem 6 = .ok (.istore 4, 2) := by decide +kernel
theorem dX1_readItem_8 : decode cX1_readItem 8 = .ok (.iload 4, 2) := by decide +kernel
theorem dX1_readItem_10 : decode cX1_readItem 10 = .ok (.iconst (-1), 1) := by decide +kernel
theorem dX1_readItem_11 : decode cX1_readItem 11 = .ok (.if_icmp .ne 5, 3) := by decide +kernel
theorem dX1_readItem_14 : decode cX1_readItem 14 = .ok (.iload_n 3, 1) := by decide +kernel
theorem dX1_readItem_15 : decode cX1_readItem 15 = .ok (.ireturn, 1) := by decide +kernel
theorem dX1_readItem_16 : decode cX1_readItem 16 = .ok (.iload_n 3, 1) := by decide +kernel
theorem dX1_readItem_17 : decode cX1_readItem 17 = .ok (.iconst 1, 1) := by decide +kernel
theorem dX1_readItem_18 : decode cX1_readItem 18 = .ok (.iadd, 1) := by decide +kernel
theorem dX1_readItem_19 : decode cX1_readItem 19 = .ok (.istore 5, 2) := by decide +kernel
theorem dX1_readItem_21 : decode cX1_readItem 21 = .ok (.iload 5, 2) := by decide +kernel
theorem dX1_readItem_23 : decode cX1_readItem 23 = .ok (.iload_n 3, 1) := by decide +kernel
theorem dX1_readItem_24 : decode cX1_readItem 24 = .ok (.iconst 5, 1) := by decide +kernel
theorem dX1_readItem_25 : decode cX1_readItem 25 = .ok (.iadd, 1) := by decide +kernel
theorem dX1_readItem_26 : decode cX1_readItem 26 = .ok (.if_icmp .ge 38, 3) := by decide +kernel
theorem dX1_readItem_29 : decode cX1_readItem 29 = .ok (.iload 5, 2) := by decide +kernel
theorem dX1_readItem_31 : decode cX1_readItem 31 = .ok (.iload_n 2, 1) := by decide +kernel
theorem dX1_readItem_32 : decode cX1_readItem 32 = .ok (.if_icmp .lt 5, 3) := by decide +kernel
theorem dX1_readItem_35 : decode cX1_readItem 35 = .ok (.iload_n 2, 1) := by decide +kernel
theorem dX1_readItem_36 : decode cX1_readItem 36 = .ok (.ireturn, 1) := by decide +kernel
theorem dX1_readItem_37 : decode cX1_readItem 37 = .ok (.aload_n 1, 1) := by decide +kernel
theorem dX1_readItem_38 : decode cX1_readItem 38 = .ok (.iload 5, 2) := by decide +kernel
theorem dX1_readItem_40 : decode cX1_readItem 40 = .ok (.iaload, 1) := by decide +kernel
theorem dX1_readItem_41 : decode cX1_readItem 41 = .ok (.bipush 48, 2) := by decide +kernel
theorem dX1_readItem_43 : decode cX1_readItem 43 = .ok (.if_icmp .lt 12, 3) := by decide +kernel
theorem dX1_readItem_46 : decode cX1_readItem 46 = .ok (.aload_n 1, 1) := by decide +kernel
theorem dX1_readItem_47 : decode cX1_readItem 47 = .ok (.iload 5, 2) := by decide +kernel
theorem dX1_readItem_49 : decode cX1_readItem 49 = .ok (.iaload, 1) := by decide +kernel
theorem dX1_readItem_50 : decode cX1_readItem 50 = .ok (.bipush 57, 2) := by decide +kernel
theorem dX1_readItem_52 : decode cX1_readItem 52 = .ok (.if_icmp .le 6, 3) := by decide +kernel
theorem dX1_readItem_55 : decode cX1_readItem 55 = .ok (.iload 5, 2) := by decide +kernel
theorem dX1_readItem_57 : decode cX1_readItem 57 = .ok (.ireturn, 1) := by decide +kernel
theorem dX1_readItem_58 : decode cX1_readItem 58 = .ok (.iinc 5 1, 3) := by decide +kernel
theorem dX1_readItem_61 : decode cX1_readItem 61 = .ok (.goto (-40), 3) := by decide +kernel
theorem dX1_readItem_64 : decode cX1_readItem 64 = .ok (.aload_n 0, 1) := by decide +kernel
theorem dX1_readItem_65 : decode cX1_readItem 65 = .ok (.getfield 15, 3) := by decide +kernel
theorem dX1_readItem_68 : decode cX1_readItem 68 = .ok (.aload_n 0, 1) := by decide +kernel
theorem dX1_readItem_69 : decode cX1_readItem 69 = .ok (.getfield 9, 3) := by decide +kernel
theorem dX1_readItem_72 : decode cX1_readItem 72 = .ok (.iload 4, 2) := by decide +kernel
theorem dX1_readItem_74 : decode cX1_readItem 74 = .ok (.iastore, 1) := by decide +kernel
theorem dX1_readItem_75 : decode cX1_readItem 75 = .ok (.aload_n 0, 1) := by decide +kernel
theorem dX1_readItem_76 : decode cX1_readItem 76 = .ok (.getfield 19, 3) := by decide +kernel
theorem dX1_readItem_79 : decode cX1_readItem 79 = .ok (.aload_n 0, 1) := by decide +kernel
theorem dX1_readItem_80 : decode cX1_readItem 80 = .ok (.getfield 9, 3) := by decide +kernel
theorem dX1_readItem_83 : decode cX1_readItem 83 = .ok (.aload_n 1, 1) := by decide +kernel
theorem dX1_readItem_84 : decode cX1_readItem 84 = .ok (.iload_n 3, 1) := by decide +kernel
theorem dX1_readItem_85 : decode cX1_readItem 85 = .ok (.iconst 1, 1) := by decide +kernel
theorem dX1_readItem_86 : decode cX1_readItem 86 = .ok (.iadd, 1) := by decide +kernel
theorem dX1_readItem_87 : decode cX1_readItem 87 = .ok (.iaload, 1) := by decide +kernel
theorem dX1_readItem_88 : decode cX1_readItem 88 = .ok (.bipush 48, 2) := by decide +kernel
theorem dX1_readItem_90 : decode cX1_readItem 90 = .ok (.isub, 1) := by decide +kernel
theorem dX1_readItem_91 : decode cX1_readItem 91 = .ok (.iastore, 1) := by decide +kernel
theorem dX1_readItem_92 : decode cX1_readItem 92 = .ok (.aload_n 0, 1) := by decide +kernel
theorem dX1_readItem_93 : decode cX1_readItem 93 = .ok (.getfield 22, 3) := by decide +kernel
theorem dX1_readItem_96 : decode cX1_readItem 96 = .ok (.aload_n 0, 1) := by decide +kernel
theorem dX1_readItem_97 : decode cX1_readItem 97 = .ok (.getfield 9, 3) := by decide +kernel
theorem dX1_readItem_100 : decode cX1_readItem 100 = .ok (.aload_n 1, 1) := by decide +kernel
theorem dX1_readItem_101 : decode cX1_readItem 101 = .ok (.iload_n 3, 1) := by decide +kernel
theorem dX1_readItem_102 : decode cX1_readItem 102 = .ok (.iconst 2, 1) := by decide +kernel
theorem dX1_readItem_103 : decode cX1_readItem 103 = .ok (.iadd, 1) := by decide +kernel
theorem dX1_readItem_104 : decode cX1_readItem 104 = .ok (.iaload, 1) := by decide +kernel
theorem dX1_readItem_105 : decode cX1_readItem 105 = .ok (.bipush 48, 2) := by decide +kernel
theorem dX1_readItem_107 : decode cX1_readItem 107 = .ok (.isub, 1) := by decide +kernel
theorem dX1_readItem_108 : decode cX1_readItem 108 = .ok (.iastore, 1) := by decide +kernel
theorem dX1_readItem_109 : decode cX1_readItem 109 = .ok (.aload_n 0, 1) := by decide +kernel
theorem dX1_readItem_110 : decode cX1_readItem 110 = .ok (.getfield 25, 3) := by decide +kernel
theorem dX1_readItem_113 : decode cX1_readItem 113 = .ok (.aload_n 0, 1) := by decide +kernel
theorem dX1_readItem_114 : decode cX1_readItem 114 = .ok (.getfield 9, 3) := by decide +kernel
theorem dX1_readItem_117 : decode cX1_readItem 117 = .ok (.bipush 10, 2) := by decide +kernel
theorem dX1_readItem_119 : decode cX1_readItem 119 = .ok (.aload_n 1, 1) := by decide +kernel
theorem dX1_readItem_120 : decode cX1_readItem 120 = .ok (.iload_n 3, 1) := by decide +kernel
theorem dX1_readItem_121 : decode cX1_readItem 121 = .ok (.iconst 3, 1) := by decide +kernel
theorem dX1_readItem_122 : decode cX1_readItem 122 = .ok (.iadd, 1) := by decide +kernel
theorem dX1_readItem_123 : decode cX1_readItem 123 = .ok (.iaload, 1) := by decide +kernel
theorem dX1_readItem_124 : decode cX1_readItem 124 = .ok (.bipush 48, 2) := by decide +kernel
theorem dX1_readItem_126 : decode cX1_readItem 126 = .ok (.isub, 1) := by decide +kernel
theorem dX1_readItem_127 : decode cX1_readItem 127 = .ok (.imul, 1) := by decide +kernel
theorem dX1_readItem_128 : decode cX1_readItem 128 = .ok (.aload_n 1, 1) := by decide +kernel
theorem dX1_readItem_129 : decode cX1_readItem 129 = .ok (.iload_n 3, 1) := by decide +kernel
theorem dX1_readItem_130 : decode cX1_readItem 130 = .ok (.iconst 4, 1) := by decide +kernel
theorem dX1_readItem_131 : decode cX1_readItem 131 = .ok (.iadd, 1) := by decide +kernel
theorem dX1_readItem_132 : decode cX1_readItem 132 = .ok (.iaload, 1) := by decide +kernel
theorem dX1_readItem_133 : decode cX1_readItem 133 = .ok (.iadd, 1) := by decide +kernel
theorem dX1_readItem_134 : decode cX1_readItem 134 = .ok (.bipush 48, 2) := by decide +kernel
theorem dX1_readItem_136 : decode cX1_readItem 136 = .ok (.isub, 1) := by decide +kernel
theorem dX1_readItem_137 : decode cX1_readItem 137 = .ok (.iastore, 1) := by decide +kernel
theorem dX1_readItem_138 : decode cX1_readItem 138 = .ok (.aload_n 0, 1) := by decide +kernel
theorem dX1_readItem_139 : decode cX1_readItem 139 = .ok (.getfield 28, 3) := by decide +kernel
theorem dX1_readItem_142 : decode cX1_readItem 142 = .ok (.aload_n 0, 1) := by decide +kernel
theorem dX1_readItem_143 : decode cX1_readItem 143 = .ok (.getfield 9, 3) := by decide +kernel
theorem dX1_readItem_146 : decode cX1_readItem 146 = .ok (.iconst 0, 1) := by decide +kernel
theorem dX1_readItem_147 : decode cX1_readItem 147 = .ok (.iastore, 1) := by decide +kernel
theorem dX1_readItem_148 : decode cX1_readItem 148 = .ok (.aload_n 0, 1) := by decide +kernel
theorem dX1_readItem_149 : decode cX1_readItem 149 = .ok (.dup, 1) := by decide +kernel
theorem dX1_readItem_150 : decode cX1_readItem 150 = .ok (.getfield 9, 3) := by decide +kernel
theorem dX1_readItem_153 : decode cX1_readItem 153 = .ok (.iconst 1, 1) := by decide +kernel
theorem dX1_readItem_154 : decode cX1_readItem 154 = .ok (.iadd, 1) := by decide +kernel
theorem dX1_readItem_155 : decode cX1_readItem 155 = .ok (.putfield 9, 3) := by decide +kernel
theorem dX1_readItem_158 : decode cX1_readItem 158 = .ok (.bipush (-9), 2) := by decide +kernel
theorem dX1_readItem_160 : decode cX1_readItem 160 = .ok (.ireturn, 1) := by decide +kernel
theorem dX1_kindByLetter_0 : decode cX1_kindByLetter 0 = .ok (.iload_n 0, 1) := by decide +kernel
theorem dX1_kindByLetter_1 : decode cX1_kindByLetter 1 = .ok (.tableswitch 75 106 117 #[71, 63, 75, 67, 75, 75, 69, 75, 75, 65, 75, 73], 63) := by decide +kernel
theorem dX1_kindByLetter_64 : decode cX1_kindByLetter 64 = .ok (.iconst 0, 1) := by decide +kernel
theorem dX1_kindByLetter_65 : decode cX1_kindByLetter 65 = .ok (.ireturn, 1) := by decide +kernel
theorem dX1_kindByLetter_66 : decode cX1_kindByLetter 66 = .ok (.iconst 1, 1) := by decide +kernel
theorem dX1_kindByLetter_67 : decode cX1_kindByLetter 67 = .ok (.ireturn, 1) := by decide +kernel
theorem dX1_kindByLetter_68 : decode cX1_kindByLetter 68 = .ok (.iconst 2, 1) := by decide +kernel
theorem dX1_kindByLetter_69 : decode cX1_kindByLetter 69 = .ok (.ireturn, 1) := by decide +kernel
theorem dX1_kindByLetter_70 : decode cX1_kindByLetter 70 = .ok (.iconst 3, 1) := by decide +kernel
theorem dX1_kindByLetter_71 : decode cX1_kindByLetter 71 = .ok (.ireturn, 1) := by decide +kernel
theorem dX1_kindByLetter_72 : decode cX1_kindByLetter 72 = .ok (.iconst 4, 1) := by decide +kernel
theorem dX1_kindByLetter_73 : decode cX1_kindByLetter 73 = .ok (.ireturn, 1) := by decide +kernel
theorem dX1_kindByLetter_74 : decode cX1_kindByLetter 74 = .ok (.iconst 5, 1) := by decide +kernel
theorem dX1_kindByLetter_75 : decode cX1_kindByLetter 75 = .ok (.ireturn, 1) := by decide +kernel
theorem dX1_kindByLetter_76 : decode cX1_kindByLetter 76 = .ok (.iconst (-1), 1) := by decide +kernel
theorem dX1_kindByLetter_77 : decode cX1_kindByLetter 77 = .ok (.ireturn, 1) := by decide +kernel
theorem dX1_kindAbove_0 : decode cX1_kindAbove 0 = .ok (.iload_n 0, 1) := by decide +kernel
theorem dX1_kindAbove_1 : decode cX1_kindAbove 1 = .ok (.lookupswitch 31 #[(4, 27), (5, 29)], 27) := by decide +kernel
theorem dX1_kindAbove_28 : decode cX1_kindAbove 28 = .ok (.iconst 1, 1) := by decide +kernel
theorem dX1_kindAbove_29 : decode cX1_kindAbove 29 = .ok (.ireturn, 1) := by decide +kernel
theorem dX1_kindAbove_30 : decode cX1_kindAbove 30 = .ok (.iconst 3, 1) := by decide +kernel
theorem dX1_kindAbove_31 : decode cX1_kindAbove 31 = .ok (.ireturn, 1) := by decide +kernel
theorem dX1_kindAbove_32 : decode cX1_kindAbove 32 = .ok (.iconst 0, 1) := by decide +kernel
theorem dX1_kindAbove_33 : decode cX1_kindAbove 33 = .ok (.ireturn, 1) := by decide +kernel
theorem dX1_isOf_0 : decode cX1_isOf 0 = .ok (.iload_n 0, 1) := by decide +kernel
theorem dX1_isOf_1 : decode cX1_isOf 1 = .ok (.iload_n 1, 1) := by decide +kernel
theorem dX1_isOf_2 : decode cX1_isOf 2 = .ok (.if_icmp .eq 11, 3) := by decide +kernel
theorem dX1_isOf_5 : decode cX1_isOf 5 = .ok (.iload_n 0, 1) := by decide +kernel
theorem dX1_isOf_6 : decode cX1_isOf 6 = .ok (.invokestatic 57, 3) := by decide +kernel
theorem dX1_isOf_9 : decode cX1_isOf 9 = .ok (.iload_n 1, 1) := by decide +kernel
theorem dX1_isOf_10 : decode cX1_isOf 10 = .ok (.if_icmp .ne 7, 3) := by decide +kernel
theorem dX1_isOf_13 : decode cX1_isOf 13 = .ok (.iconst 1, 1) := by decide +kernel
theorem dX1_isOf_14 : decode cX1_isOf 14 = .ok (.goto 4, 3) := by decide +kernel
theorem dX1_isOf_17 : decode cX1_isOf 17 = .ok (.iconst 0, 1) := by decide +kernel
theorem dX1_isOf_18 : decode cX1_isOf 18 = .ok (.ireturn, 1) := by decide +kernel
theorem dX1_regardOf_0 : decode cX1_regardOf 0 = .ok (.iload_n 1, 1) := by decide +kernel
theorem dX1_regardOf_1 : decode cX1_regardOf 1 = .ok (.iconst 2, 1) := by decide +kernel
theorem dX1_regardOf_2 : decode cX1_regardOf 2 = .ok (.iload_n 2, 1) := by decide +kernel
theorem dX1_regardOf_3 : decode cX1_regardOf 3 = .ok (.imul, 1) := by decide +kernel
theorem dX1_regardOf_4 : decode cX1_regardOf 4 = .ok (.if_icmp .le 11, 3) := by decide +kernel
theorem dX1_regardOf_7 : decode cX1_regardOf 7 = .ok (.iload_n 1, 1) := by decide +kernel
theorem dX1_regardOf_8 : decode cX1_regardOf 8 = .ok (.iconst 2, 1) := by decide +kernel
theorem dX1_regardOf_9 : decode cX1_regardOf 9 = .ok (.iload_n 2, 1) := by decide +kernel
theorem dX1_regardOf_10 : decode cX1_regardOf 10 = .ok (.imul, 1) := by decide +kernel
theorem dX1_regardOf_11 : decode cX1_regardOf 11 = .ok (.isub, 1) := by decide +kernel
theorem dX1_regardOf_12 : decode cX1_regardOf 12 = .ok (.goto 4, 3) := by decide +kernel
theorem dX1_regardOf_15 : decode cX1_regardOf 15 = .ok (.iconst 0, 1) := by decide +kernel
theorem dX1_regardOf_16 : decode cX1_regardOf 16 = .ok (.istore 4, 2) := by decide +kernel
theorem dX1_regardOf_18 : decode cX1_regardOf 18 = .ok (.iload_n 3, 1) := by decide +kernel
theorem dX1_regardOf_19 : decode cX1_regardOf 19 = .ok (.bipush 20, 2) := by decide +kernel
theorem dX1_regardOf_21 : decode cX1_regardOf 21 = .ok (.if_icmp .lt 10, 3) := by decide +kernel
theorem dX1_regardOf_24 : decode cX1_regardOf 24 = .ok (.iload 4, 2) := by decide +kernel
theorem dX1_regardOf_26 : decode cX1_regardOf 26 = .ok (.iconst 2, 1) := by decide +kernel
theorem dX1_regardOf_27 : decode cX1_regardOf 27 = .ok (.iadd, 1) := by decide +kernel
theorem dX1_regardOf_28 : decode cX1_regardOf 28 = .ok (.goto 5, 3) := by decide +kernel
theorem dX1_regardOf_31 : decode cX1_regardOf 31 = .ok (.iload 4, 2) := by decide +kernel
theorem dX1_regardOf_33 : decode cX1_regardOf 33 = .ok (.istore 5, 2) := by decide +kernel
theorem dX1_regardOf_35 : decode cX1_regardOf 35 = .ok (.iload_n 3, 1) := by decide +kernel
theorem dX1_regardOf_36 : decode cX1_regardOf 36 = .ok (.bipush 10, 2) := by decide +kernel
theorem dX1_regardOf_38 : decode cX1_regardOf 38 = .ok (.if_icmp .ge 15, 3) := by decide +kernel
theorem dX1_regardOf_41 : decode cX1_regardOf 41 = .ok (.iload 4, 2) := by decide +kernel
theorem dX1_regardOf_43 : decode cX1_regardOf 43 = .ok (.ifCond .le 10, 3) := by decide +kernel
theorem dX1_regardOf_46 : decode cX1_regardOf 46 = .ok (.iload 4, 2) := by decide +kernel
theorem dX1_regardOf_48 : decode cX1_regardOf 48 = .ok (.iconst 1, 1) := by decide +kernel
theorem dX1_regardOf_49 : decode cX1_regardOf 49 = .ok (.isub, 1) := by decide +kernel
theorem dX1_regardOf_50 : decode cX1_regardOf 50 = .ok (.goto 5, 3) := by decide +kernel
theorem dX1_regardOf_53 : decode cX1_regardOf 53 = .ok (.iload 4, 2) := by decide +kernel
theorem dX1_regardOf_55 : decode cX1_regardOf 55 = .ok (.istore 6, 2) := by decide +kernel
theorem dX1_regardOf_57 : decode cX1_regardOf 57 = .ok (.iload_n 0, 1) := by decide +kernel
theorem dX1_regardOf_58 : decode cX1_regardOf 58 = .ok (.tableswitch 58 1 5 #[34, 37, 45, 48, 53], 34) := by decide +kernel
theorem dX1_regardOf_92 : decode cX1_regardOf 92 = .ok (.iload 5, 2) := by decide +kernel
theorem dX1_regardOf_94 : decode cX1_regardOf 94 = .ok (.ireturn, 1) := by decide +kernel
theorem dX1_regardOf_95 : decode cX1_regardOf 95 = .ok (.iload 4, 2) := by decide +kernel
theorem dX1_regardOf_97 : decode cX1_regardOf 97 = .ok (.iload_n 3, 1) := by decide +kernel
theorem dX1_regardOf_98 : decode cX1_regardOf 98 = .ok (.bipush 10, 2) := by decide +kernel
theorem dX1_regardOf_100 : decode cX1_regardOf 100 = .ok (.idiv, 1) := by decide +kernel
theorem dX1_regardOf_101 : decode cX1_regardOf 101 = .ok (.iadd, 1) := by decide +kernel
theorem dX1_regardOf_102 : decode cX1_regardOf 102 = .ok (.ireturn, 1) := by decide +kernel
theorem dX1_regardOf_103 : decode cX1_regardOf 103 = .ok (.iload 6, 2) := by decide +kernel
theorem dX1_regardOf_105 : decode cX1_regardOf 105 = .ok (.ireturn, 1) := by decide +kernel
theorem dX1_regardOf_106 : decode cX1_regardOf 106 = .ok (.iconst 2, 1) := by decide +kernel
theorem dX1_regardOf_107 : decode cX1_regardOf 107 = .ok (.iload 5, 2) := by decide +kernel
theorem dX1_regardOf_109 : decode cX1_regardOf 109 = .ok (.imul, 1) := by decide +kernel
theorem dX1_regardOf_110 : decode cX1_regardOf 110 = .ok (.ireturn, 1) := by decide +kernel
theorem dX1_regardOf_111 : decode cX1_regardOf 111 = .ok (.iload 6, 2) := by decide +kernel
theorem dX1_regardOf_113 : decode cX1_regardOf 113 = .ok (.iconst 2, 1) := by decide +kernel
theorem dX1_regardOf_114 : decode cX1_regardOf 114 = .ok (.idiv, 1) := by decide +kernel
theorem dX1_regardOf_115 : decode cX1_regardOf 115 = .ok (.ireturn, 1) := by decide +kernel
theorem dX1_regardOf_116 : decode cX1_regardOf 116 = .ok (.iload 4, 2) := by decide +kernel
theorem dX1_regardOf_118 : decode cX1_regardOf 118 = .ok (.ireturn, 1) := by decide +kernel
theorem dX1_regardAs_0 : decode cX1_regardAs 0 = .ok (.iload_n 2, 1) := by decide +kernel
theorem dX1_regardAs_1 : decode cX1_regardAs 1 = .ok (.aload_n 0, 1) := by decide +kernel
theorem dX1_regardAs_2 : decode cX1_regardAs 2 = .ok (.getfield 19, 3) := by decide +kernel
theorem dX1_regardAs_5 : decode cX1_regardAs 5 = .ok (.iload_n 1, 1) := by decide +kernel
theorem dX1_regardAs_6 : decode cX1_regardAs 6 = .ok (.iaload, 1) := by decide +kernel
theorem dX1_regardAs_7 : decode cX1_regardAs 7 = .ok (.aload_n 0, 1) := by decide +kernel
theorem dX1_regardAs_8 : decode cX1_regardAs 8 = .ok (.getfield 28, 3) := by decide +kernel
theorem dX1_regardAs_11 : decode cX1_regardAs 11 = .ok (.iload_n 1, 1) := by decide +kernel
theorem dX1_regardAs_12 : decode cX1_regardAs 12 = .ok (.iaload, 1) := by decide +kernel
theorem dX1_regardAs_13 : decode cX1_regardAs 13 = .ok (.aload_n 0, 1) := by decide +kernel
theorem dX1_regardAs_14 : decode cX1_regardAs 14 = .ok (.getfield 25, 3) := by decide +kernel
theorem dX1_regardAs_17 : decode cX1_regardAs 17 = .ok (.iload_n 1, 1) := by decide +kernel
theorem dX1_regardAs_18 : decode cX1_regardAs 18 = .ok (.iaload, 1) := by decide +kernel
theorem dX1_regardAs_19 : decode cX1_regardAs 19 = .ok (.invokestatic 60, 3) := by decide +kernel
theorem dX1_regardAs_22 : decode cX1_regardAs 22 = .ok (.ireturn, 1) := by decide +kernel
theorem dX1_weigh_0 : decode cX1_weigh 0 = .ok (.aload_n 0, 1) := by decide +kernel
theorem dX1_weigh_1 : decode cX1_weigh 1 = .ok (.iconst 0, 1) := by decide +kernel
theorem dX1_weigh_2 : decode cX1_weigh 2 = .ok (.putfield 37, 3) := by decide +kernel
theorem dX1_weigh_5 : decode cX1_weigh 5 = .ok (.iconst 0, 1) := by decide +kernel
theorem dX1_weigh_6 : decode cX1_weigh 6 = .ok (.istore_n 1, 1) := by decide +kernel
theorem dX1_weigh_7 : decode cX1_weigh 7 = .ok (.iload_n 1, 1) := by decide +kernel
theorem dX1_weigh_8 : decode cX1_weigh 8 = .ok (.aload_n 0, 1) := by decide +kernel
theorem dX1_weigh_9 : decode cX1_weigh 9 = .ok (.getfield 9, 3) := by decide +kernel
theorem dX1_weigh_12 : decode cX1_weigh 12 = .ok (.if_icmp .ge 65, 3) := by decide +kernel
theorem dX1_weigh_15 : decode cX1_weigh 15 = .ok (.aload_n 0, 1) := by decide +kernel
theorem dX1_weigh_16 : decode cX1_weigh 16 = .ok (.getfield 31, 3) := by decide +kernel
theorem dX1_weigh_19 : decode cX1_weigh 19 = .ok (.iload_n 1, 1) := by decide +kernel
theorem dX1_weigh_20 : decode cX1_weigh 20 = .ok (.aload_n 0, 1) := by decide +kernel
theorem dX1_weigh_21 : decode cX1_weigh 21 = .ok (.getfield 15, 3) := by decide +kernel
theorem dX1_weigh_24 : decode cX1_weigh 24 = .ok (.iload_n 1, 1) := by decide +kernel
theorem dX1_weigh_25 : decode cX1_weigh 25 = .ok (.iaload, 1) := by decide +kernel
theorem dX1_weigh_26 : decode cX1_weigh 26 = .ok (.aload_n 0, 1) := by decide +kernel
theorem dX1_weigh_27 : decode cX1_weigh 27 = .ok (.getfield 19, 3) := by decide +kernel
theorem dX1_weigh_30 : decode cX1_weigh 30 = .ok (.iload_n 1, 1) := by decide +kernel
theorem dX1_weigh_31 : decode cX1_weigh 31 = .ok (.iaload, 1) := by decide +kernel
theorem dX1_weigh_32 : decode cX1_weigh 32 = .ok (.aload_n 0, 1) := by decide +kernel
theorem dX1_weigh_33 : decode cX1_weigh 33 = .ok (.getfield 28, 3) := by decide +kernel
theorem dX1_weigh_36 : decode cX1_weigh 36 = .ok (.iload_n 1, 1) := by decide +kernel
theorem dX1_weigh_37 : decode cX1_weigh 37 = .ok (.iaload, 1) := by decide +kernel
theorem dX1_weigh_38 : decode cX1_weigh 38 = .ok (.aload_n 0, 1) := by decide +kernel
theorem dX1_weigh_39 : decode cX1_weigh 39 = .ok (.getfield 25, 3) := by decide +kernel
theorem dX1_weigh_42 : decode cX1_weigh 42 = .ok (.iload_n 1, 1) := by decide +kernel
theorem dX1_weigh_43 : decode cX1_weigh 43 = .ok (.iaload, 1) := by decide +kernel
theorem dX1_weigh_44 : decode cX1_weigh 44 = .ok (.invokestatic 60, 3) := by decide +kernel
theorem dX1_weigh_47 : decode cX1_weigh 47 = .ok (.iastore, 1) := by decide +kernel
theorem dX1_weigh_48 : decode cX1_weigh 48 = .ok (.aload_n 0, 1) := by decide +kernel
theorem dX1_weigh_49 : decode cX1_weigh 49 = .ok (.getfield 31, 3) := by decide +kernel
theorem dX1_weigh_52 : decode cX1_weigh 52 = .ok (.iload_n 1, 1) := by decide +kernel
theorem dX1_weigh_53 : decode cX1_weigh 53 = .ok (.iaload, 1) := by decide +kernel
theorem dX1_weigh_54 : decode cX1_weigh 54 = .ok (.aload_n 0, 1) := by decide +kernel
theorem dX1_weigh_55 : decode cX1_weigh 55 = .ok (.getfield 31, 3) := by decide +kernel
theorem dX1_weigh_58 : decode cX1_weigh 58 = .ok (.aload_n 0, 1) := by decide +kernel
theorem dX1_weigh_59 : decode cX1_weigh 59 = .ok (.getfield 37, 3) := by decide +kernel
theorem dX1_weigh_62 : decode cX1_weigh 62 = .ok (.iaload, 1) := by decide +kernel
theorem dX1_weigh_63 : decode cX1_weigh 63 = .ok (.if_icmp .le 8, 3) := by decide +kernel
theorem dX1_weigh_66 : decode cX1_weigh 66 = .ok (.aload_n 0, 1) := by decide +kernel
theorem dX1_weigh_67 : decode cX1_weigh 67 = .ok (.iload_n 1, 1) := by decide +kernel
theorem dX1_weigh_68 : decode cX1_weigh 68 = .ok (.putfield 37, 3) := by decide +kernel
theorem dX1_weigh_71 : decode cX1_weigh 71 = .ok (.iinc 1 1, 3) := by decide +kernel
theorem dX1_weigh_74 : decode cX1_weigh 74 = .ok (.goto (-67), 3) := by decide +kernel
theorem dX1_weigh_77 : decode cX1_weigh 77 = .ok (.aload_n 0, 1) := by decide +kernel
theorem dX1_weigh_78 : decode cX1_weigh 78 = .ok (.iconst 0, 1) := by decide +kernel
theorem dX1_weigh_79 : decode cX1_weigh 79 = .ok (.putfield 40, 3) := by decide +kernel
theorem dX1_weigh_82 : decode cX1_weigh 82 = .ok (.iconst 0, 1) := by decide +kernel
theorem dX1_weigh_83 : decode cX1_weigh 83 = .ok (.istore_n 1, 1) := by decide +kernel
theorem dX1_weigh_84 : decode cX1_weigh 84 = .ok (.iload_n 1, 1) := by decide +kernel
theorem dX1_weigh_85 : decode cX1_weigh 85 = .ok (.aload_n 0, 1) := by decide +kernel
theorem dX1_weigh_86 : decode cX1_weigh 86 = .ok (.getfield 9, 3) := by decide +kernel
theorem dX1_weigh_89 : decode cX1_weigh 89 = .ok (.if_icmp .ge 46, 3) := by decide +kernel
theorem dX1_weigh_92 : decode cX1_weigh 92 = .ok (.aload_n 0, 1) := by decide +kernel
theorem dX1_weigh_93 : decode cX1_weigh 93 = .ok (.getfield 34, 3) := by decide +kernel
theorem dX1_weigh_96 : decode cX1_weigh 96 = .ok (.iload_n 1, 1) := by decide +kernel
theorem dX1_weigh_97 : decode cX1_weigh 97 = .ok (.aload_n 0, 1) := by decide +kernel
theorem dX1_weigh_98 : decode cX1_weigh 98 = .ok (.getfield 31, 3) := by decide +kernel
theorem dX1_weigh_101 : decode cX1_weigh 101 = .ok (.aload_n 0, 1) := by decide +kernel
theorem dX1_weigh_102 : decode cX1_weigh 102 = .ok (.getfield 37, 3) := by decide +kernel
theorem dX1_weigh_105 : decode cX1_weigh 105 = .ok (.iaload, 1) := by decide +kernel
theorem dX1_weigh_106 : decode cX1_weigh 106 = .ok (.aload_n 0, 1) := by decide +kernel
theorem dX1_weigh_107 : decode cX1_weigh 107 = .ok (.getfield 31, 3) := by decide +kernel
theorem dX1_weigh_110 : decode cX1_weigh 110 = .ok (.iload_n 1, 1) := by decide +kernel
theorem dX1_weigh_111 : decode cX1_weigh 111 = .ok (.iaload, 1) := by decide +kernel
theorem dX1_weigh_112 : decode cX1_weigh 112 = .ok (.isub, 1) := by decide +kernel
theorem dX1_weigh_113 : decode cX1_weigh 113 = .ok (.iastore, 1) := by decide +kernel
theorem dX1_weigh_114 : decode cX1_weigh 114 = .ok (.aload_n 0, 1) := by decide +kernel
theorem dX1_weigh_115 : decode cX1_weigh 115 = .ok (.dup, 1) := by decide +kernel
theorem dX1_weigh_116 : decode cX1_weigh 116 = .ok (.getfield 40, 3) := by decide +kernel
theorem dX1_weigh_119 : decode cX1_weigh 119 = .ok (.aload_n 0, 1) := by decide +kernel
theorem dX1_weigh_120 : decode cX1_weigh 120 = .ok (.getfield 34, 3) := by decide +kernel
theorem dX1_weigh_123 : decode cX1_weigh 123 = .ok (.iload_n 1, 1) := by decide +kernel
theorem dX1_weigh_124 : decode cX1_weigh 124 = .ok (.iaload, 1) := by decide +kernel
theorem dX1_weigh_125 : decode cX1_weigh 125 = .ok (.iadd, 1) := by decide +kernel
theorem dX1_weigh_126 : decode cX1_weigh 126 = .ok (.putfield 40, 3) := by decide +kernel
theorem dX1_weigh_129 : decode cX1_weigh 129 = .ok (.iinc 1 1, 3) := by decide +kernel
theorem dX1_weigh_132 : decode cX1_weigh 132 = .ok (.goto (-48), 3) := by decide +kernel
theorem dX1_weigh_135 : decode cX1_weigh 135 = .ok (.return_, 1) := by decide +kernel
theorem dX1_pass_0 : decode cX1_pass 0 = .ok (.aload_n 0, 1) := by decide +kernel
theorem dX1_pass_1 : decode cX1_pass 1 = .ok (.invokevirtual 64, 3) := by decide +kernel
theorem dX1_pass_4 : decode cX1_pass 4 = .ok (.iconst 0, 1) := by decide +kernel
theorem dX1_pass_5 : decode cX1_pass 5 = .ok (.istore_n 1, 1) := by decide +kernel
theorem dX1_pass_6 : decode cX1_pass 6 = .ok (.iconst 0, 1) := by decide +kernel
theorem dX1_pass_7 : decode cX1_pass 7 = .ok (.istore_n 2, 1) := by decide +kernel
theorem dX1_pass_8 : decode cX1_pass 8 = .ok (.iload_n 2, 1) := by decide +kernel
theorem dX1_pass_9 : decode cX1_pass 9 = .ok (.aload_n 0, 1) := by decide +kernel
theorem dX1_pass_10 : decode cX1_pass 10 = .ok (.getfield 9, 3) := by decide +kernel
theorem dX1_pass_13 : decode cX1_pass 13 = .ok (.if_icmp .ge 64, 3) := by decide +kernel
theorem dX1_pass_16 : decode cX1_pass 16 = .ok (.iconst 0, 1) := by decide +kernel
theorem dX1_pass_17 : decode cX1_pass 17 = .ok (.bipush 99, 2) := by decide +kernel
theorem dX1_pass_19 : decode cX1_pass 19 = .ok (.aload_n 0, 1) := by decide +kernel
theorem dX1_pass_20 : decode cX1_pass 20 = .ok (.getfield 25, 3) := by decide +kernel
theorem dX1_pass_23 : decode cX1_pass 23 = .ok (.iload_n 2, 1) := by decide +kernel
theorem dX1_pass_24 : decode cX1_pass 24 = .ok (.iaload, 1) := by decide +kernel
theorem dX1_pass_25 : decode cX1_pass 25 = .ok (.aload_n 0, 1) := by decide +kernel
theorem dX1_pass_26 : decode cX1_pass 26 = .ok (.getfield 34, 3) := by decide +kernel
theorem dX1_pass_29 : decode cX1_pass 29 = .ok (.iload_n 2, 1) := by decide +kernel
theorem dX1_pass_30 : decode cX1_pass 30 = .ok (.iaload, 1) := by decide +kernel
theorem dX1_pass_31 : decode cX1_pass 31 = .ok (.iadd, 1) := by decide +kernel
theorem dX1_pass_32 : decode cX1_pass 32 = .ok (.aload_n 0, 1) := by decide +kernel
theorem dX1_pass_33 : decode cX1_pass 33 = .ok (.getfield 22, 3) := by decide +kernel
theorem dX1_pass_36 : decode cX1_pass 36 = .ok (.iload_n 2, 1) := by decide +kernel
theorem dX1_pass_37 : decode cX1_pass 37 = .ok (.iaload, 1) := by decide +kernel
theorem dX1_pass_38 : decode cX1_pass 38 = .ok (.isub, 1) := by decide +kernel
theorem dX1_pass_39 : decode cX1_pass 39 = .ok (.invokestatic 67, 3) := by decide +kernel
theorem dX1_pass_42 : decode cX1_pass 42 = .ok (.invokestatic 73, 3) := by decide +kernel
theorem dX1_pass_45 : decode cX1_pass 45 = .ok (.istore_n 3, 1) := by decide +kernel
theorem dX1_pass_46 : decode cX1_pass 46 = .ok (.iload_n 1, 1) := by decide +kernel
theorem dX1_pass_47 : decode cX1_pass 47 = .ok (.iload_n 3, 1) := by decide +kernel
theorem dX1_pass_48 : decode cX1_pass 48 = .ok (.aload_n 0, 1) := by decide +kernel
theorem dX1_pass_49 : decode cX1_pass 49 = .ok (.getfield 25, 3) := by decide +kernel
theorem dX1_pass_52 : decode cX1_pass 52 = .ok (.iload_n 2, 1) := by decide +kernel
theorem dX1_pass_53 : decode cX1_pass 53 = .ok (.iaload, 1) := by decide +kernel
theorem dX1_pass_54 : decode cX1_pass 54 = .ok (.if_icmp .eq 7, 3) := by decide +kernel
theorem dX1_pass_57 : decode cX1_pass 57 = .ok (.iconst 1, 1) := by decide +kernel
theorem dX1_pass_58 : decode cX1_pass 58 = .ok (.goto 4, 3) := by decide +kernel
theorem dX1_pass_61 : decode cX1_pass 61 = .ok (.iconst 0, 1) := by decide +kernel
theorem dX1_pass_62 : decode cX1_pass 62 = .ok (.ior, 1) := by decide +kernel
theorem dX1_pass_63 : decode cX1_pass 63 = .ok (.istore_n 1, 1) := by decide +kernel
theorem dX1_pass_64 : decode cX1_pass 64 = .ok (.aload_n 0, 1) := by decide +kernel
theorem dX1_pass_65 : decode cX1_pass 65 = .ok (.getfield 25, 3) := by decide +kernel
theorem dX1_pass_68 : decode cX1_pass 68 = .ok (.iload_n 2, 1) := by decide +kernel
theorem dX1_pass_69 : decode cX1_pass 69 = .ok (.iload_n 3, 1) := by decide +kernel
theorem dX1_pass_70 : decode cX1_pass 70 = .ok (.iastore, 1) := by decide +kernel
theorem dX1_pass_71 : decode cX1_pass 71 = .ok (.iinc 2 1, 3) := by decide +kernel
theorem dX1_pass_74 : decode cX1_pass 74 = .ok (.goto (-66), 3) := by decide +kernel
theorem dX1_pass_77 : decode cX1_pass 77 = .ok (.iload_n 1, 1) := by decide +kernel
theorem dX1_pass_78 : decode cX1_pass 78 = .ok (.ireturn, 1) := by decide +kernel
theorem dX1_passAll_0 : decode cX1_passAll 0 = .ok (.iconst 0, 1) := by decide +kernel
theorem dX1_passAll_1 : decode cX1_passAll 1 = .ok (.istore_n 2, 1) := by decide +kernel
theorem dX1_passAll_2 : decode cX1_passAll 2 = .ok (.iconst 0, 1) := by decide +kernel
theorem dX1_passAll_3 : decode cX1_passAll 3 = .ok (.istore_n 3, 1) := by decide +kernel
theorem dX1_passAll_4 : decode cX1_passAll 4 = .ok (.iload_n 3, 1) := by decide +kernel
theorem dX1_passAll_5 : decode cX1_passAll 5 = .ok (.iload_n 1, 1) := by decide +kernel
theorem dX1_passAll_6 : decode cX1_passAll 6 = .ok (.if_icmp .ge 21, 3) := by decide +kernel
theorem dX1_passAll_9 : decode cX1_passAll 9 = .ok (.aload_n 0, 1) := by decide +kernel
theorem dX1_passAll_10 : decode cX1_passAll 10 = .ok (.invokevirtual 76, 3) := by decide +kernel
theorem dX1_passAll_13 : decode cX1_passAll 13 = .ok (.pop, 1) := by decide +kernel
theorem dX1_passAll_14 : decode cX1_passAll 14 = .ok (.iload_n 2, 1) := by decide +kernel
theorem dX1_passAll_15 : decode cX1_passAll 15 = .ok (.aload_n 0, 1) := by decide +kernel
theorem dX1_passAll_16 : decode cX1_passAll 16 = .ok (.getfield 40, 3) := by decide +kernel
theorem dX1_passAll_19 : decode cX1_passAll 19 = .ok (.iadd, 1) := by decide +kernel
theorem dX1_passAll_20 : decode cX1_passAll 20 = .ok (.istore_n 2, 1) := by decide +kernel
theorem dX1_passAll_21 : decode cX1_passAll 21 = .ok (.iinc 3 1, 3) := by decide +kernel
theorem dX1_passAll_24 : decode cX1_passAll 24 = .ok (.goto (-20), 3) := by decide +kernel
theorem dX1_passAll_27 : decode cX1_passAll 27 = .ok (.iload_n 2, 1) := by decide +kernel
theorem dX1_passAll_28 : decode cX1_passAll 28 = .ok (.ireturn, 1) := by decide +kernel
theorem dX1_paidUnless_0 : decode cX1_paidUnless 0 = .ok (.iconst 0, 1) := by decide +kernel
theorem dX1_paidUnless_1 : decode cX1_paidUnless 1 = .ok (.istore_n 3, 1) := by decide +kernel
theorem dX1_paidUnless_2 : decode cX1_paidUnless 2 = .ok (.iconst 0, 1) := by decide +kernel
theorem dX1_paidUnless_3 : decode cX1_paidUnless 3 = .ok (.istore 4, 2) := by decide +kernel
theorem dX1_paidUnless_5 : decode cX1_paidUnless 5 = .ok (.iload 4, 2) := by decide +kernel
theorem dX1_paidUnless_7 : decode cX1_paidUnless 7 = .ok (.aload_n 0, 1) := by decide +kernel
theorem dX1_paidUnless_8 : decode cX1_paidUnless 8 = .ok (.getfield 9, 3) := by decide +kernel
theorem dX1_paidUnless_11 : decode cX1_paidUnless 11 = .ok (.if_icmp .ge 21, 3) := by decide +kernel
theorem dX1_paidUnless_14 : decode cX1_paidUnless 14 = .ok (.iload_n 3, 1) := by decide +kernel
theorem dX1_paidUnless_15 : decode cX1_paidUnless 15 = .ok (.aload_n 0, 1) := by decide +kernel
theorem dX1_paidUnless_16 : decode cX1_paidUnless 16 = .ok (.iload_n 1, 1) := by decide +kernel
theorem dX1_paidUnless_17 : decode cX1_paidUnless 17 = .ok (.iload 4, 2) := by decide +kernel
theorem dX1_paidUnless_19 : decode cX1_paidUnless 19 = .ok (.invokevirtual 80, 3) := by decide +kernel
theorem dX1_paidUnless_22 : decode cX1_paidUnless 22 = .ok (.invokestatic 73, 3) := by decide +kernel
theorem dX1_paidUnless_25 : decode cX1_paidUnless 25 = .ok (.istore_n 3, 1) := by decide +kernel
theorem dX1_paidUnless_26 : decode cX1_paidUnless 26 = .ok (.iinc 4 1, 3) := by decide +kernel
theorem dX1_paidUnless_29 : decode cX1_paidUnless 29 = .ok (.goto (-24), 3) := by decide +kernel
theorem dX1_paidUnless_32 : decode cX1_paidUnless 32 = .ok (.iload_n 3, 1) := by decide +kernel
theorem dX1_paidUnless_33 : decode cX1_paidUnless 33 = .ok (.aload_n 0, 1) := by decide +kernel
theorem dX1_paidUnless_34 : decode cX1_paidUnless 34 = .ok (.iload_n 1, 1) := by decide +kernel
theorem dX1_paidUnless_35 : decode cX1_paidUnless 35 = .ok (.iload_n 2, 1) := by decide +kernel
theorem dX1_paidUnless_36 : decode cX1_paidUnless 36 = .ok (.invokevirtual 80, 3) := by decide +kernel
theorem dX1_paidUnless_39 : decode cX1_paidUnless 39 = .ok (.isub, 1) := by decide +kernel
theorem dX1_paidUnless_40 : decode cX1_paidUnless 40 = .ok (.ireturn, 1) := by decide +kernel
theorem dX1_regardedUnless_0 : decode cX1_regardedUnless 0 = .ok (.iload_n 1, 1) := by decide +kernel
theorem dX1_regardedUnless_1 : decode cX1_regardedUnless 1 = .ok (.iload_n 2, 1) := by decide +kernel
theorem dX1_regardedUnless_2 : decode cX1_regardedUnless 2 = .ok (.ishr, 1) := by decide +kernel
theorem dX1_regardedUnless_3 : decode cX1_regardedUnless 3 = .ok (.iconst 1, 1) := by decide +kernel
theorem dX1_regardedUnless_4 : decode cX1_regardedUnless 4 = .ok (.iand, 1) := by decide +kernel
theorem dX1_regardedUnless_5 : decode cX1_regardedUnless 5 = .ok (.ifCond .eq 7, 3) := by decide +kernel
theorem dX1_regardedUnless_8 : decode cX1_regardedUnless 8 = .ok (.iconst 0, 1) := by decide +kernel
theorem dX1_regardedUnless_9 : decode cX1_regardedUnless 9 = .ok (.goto 9, 3) := by decide +kernel
theorem dX1_regardedUnless_12 : decode cX1_regardedUnless 12 = .ok (.aload_n 0, 1) := by decide +kernel
theorem dX1_regardedUnless_13 : decode cX1_regardedUnless 13 = .ok (.getfield 31, 3) := by decide +kernel
theorem dX1_regardedUnless_16 : decode cX1_regardedUnless 16 = .ok (.iload_n 2, 1) := by decide +kernel
theorem dX1_regardedUnless_17 : decode cX1_regardedUnless 17 = .ok (.iaload, 1) := by decide +kernel
theorem dX1_regardedUnless_18 : decode cX1_regardedUnless 18 = .ok (.ireturn, 1) := by decide +kernel
theorem dX1_firstWith_0 : decode cX1_firstWith 0 = .ok (.iconst 0, 1) := by decide +kernel
theorem dX1_firstWith_1 : decode cX1_firstWith 1 = .ok (.istore_n 2, 1) := by decide +kernel
theorem dX1_firstWith_2 : decode cX1_firstWith 2 = .ok (.iload_n 2, 1) := by decide +kernel
theorem dX1_firstWith_3 : decode cX1_firstWith 3 = .ok (.aload_n 0, 1) := by decide +kernel
theorem dX1_firstWith_4 : decode cX1_firstWith 4 = .ok (.getfield 9, 3) := by decide +kernel
theorem dX1_firstWith_7 : decode cX1_firstWith 7 = .ok (.if_icmp .ge 21, 3) := by decide +kernel
theorem dX1_firstWith_10 : decode cX1_firstWith 10 = .ok (.aload_n 0, 1) := by decide +kernel
theorem dX1_firstWith_11 : decode cX1_firstWith 11 = .ok (.getfield 25, 3) := by decide +kernel
theorem dX1_firstWith_14 : decode cX1_firstWith 14 = .ok (.iload_n 2, 1) := by decide +kernel
theorem dX1_firstWith_15 : decode cX1_firstWith 15 = .ok (.iaload, 1) := by decide +kernel
theorem dX1_firstWith_16 : decode cX1_firstWith 16 = .ok (.iload_n 1, 1) := by decide +kernel
theorem dX1_firstWith_17 : decode cX1_firstWith 17 = .ok (.if_icmp .lt 5, 3) := by decide +kernel
theorem dX1_firstWith_20 : decode cX1_firstWith 20 = .ok (.iload_n 2, 1) := by decide +kernel
theorem dX1_firstWith_21 : decode cX1_firstWith 21 = .ok (.ireturn, 1) := by decide +kernel
theorem dX1_firstWith_22 : decode cX1_firstWith 22 = .ok (.iinc 2 1, 3) := by decide +kernel
theorem dX1_firstWith_25 : decode cX1_firstWith 25 = .ok (.goto (-23), 3) := by decide +kernel
theorem dX1_firstWith_28 : decode cX1_firstWith 28 = .ok (.bipush (-9), 2) := by decide +kernel
theorem dX1_firstWith_30 : decode cX1_firstWith 30 = .ok (.ireturn, 1) := by decide +kernel
theorem dX1_highestRegard_0 : decode cX1_highestRegard 0 = .ok (.aload_n 0, 1) := by decide +kernel
theorem dX1_highestRegard_1 : decode cX1_highestRegard 1 = .ok (.invokevirtual 64, 3) := by decide +kernel
theorem dX1_highestRegard_4 : decode cX1_highestRegard 4 = .ok (.aload_n 0, 1) := by decide +kernel
theorem dX1_highestRegard_5 : decode cX1_highestRegard 5 = .ok (.getfield 9, 3) := by decide +kernel
theorem dX1_highestRegard_8 : decode cX1_highestRegard 8 = .ok (.ifCond .ne 7, 3) := by decide +kernel
theorem dX1_highestRegard_11 : decode cX1_highestRegard 11 = .ok (.iconst 0, 1) := by decide +kernel
theorem dX1_highestRegard_12 : decode cX1_highestRegard 12 = .ok (.goto 12, 3) := by decide +kernel
theorem dX1_highestRegard_15 : decode cX1_highestRegard 15 = .ok (.aload_n 0, 1) := by decide +kernel
theorem dX1_highestRegard_16 : decode cX1_highestRegard 16 = .ok (.getfield 31, 3) := by decide +kernel
theorem dX1_highestRegard_19 : decode cX1_highestRegard 19 = .ok (.aload_n 0, 1) := by decide +kernel
theorem dX1_highestRegard_20 : decode cX1_highestRegard 20 = .ok (.getfield 37, 3) := by decide +kernel
theorem dX1_highestRegard_23 : decode cX1_highestRegard 23 = .ok (.iaload, 1) := by decide +kernel
theorem dX1_highestRegard_24 : decode cX1_highestRegard 24 = .ok (.ireturn, 1) := by decide +kernel
theorem dX1_allPurses_0 : decode cX1_allPurses 0 = .ok (.iconst 0, 1) := by decide +kernel
theorem dX1_allPurses_1 : decode cX1_allPurses 1 = .ok (.istore_n 1, 1) := by decide +kernel
theorem dX1_allPurses_2 : decode cX1_allPurses 2 = .ok (.iconst 0, 1) := by decide +kernel
theorem dX1_allPurses_3 : decode cX1_allPurses 3 = .ok (.istore_n 2, 1) := by decide +kernel
theorem dX1_allPurses_4 : decode cX1_allPurses 4 = .ok (.iload_n 2, 1) := by decide +kernel
theorem dX1_allPurses_5 : decode cX1_allPurses 5 = .ok (.aload_n 0, 1) := by decide +kernel
theorem dX1_allPurses_6 : decode cX1_allPurses 6 = .ok (.getfield 9, 3) := by decide +kernel
theorem dX1_allPurses_9 : decode cX1_allPurses 9 = .ok (.if_icmp .ge 18, 3) := by decide +kernel
theorem dX1_allPurses_12 : decode cX1_allPurses 12 = .ok (.iload_n 1, 1) := by decide +kernel
theorem dX1_allPurses_13 : decode cX1_allPurses 13 = .ok (.aload_n 0, 1) := by decide +kernel
theorem dX1_allPurses_14 : decode cX1_allPurses 14 = .ok (.getfield 25, 3) := by decide +kernel
theorem dX1_allPurses_17 : decode cX1_allPurses 17 = .ok (.iload_n 2, 1) := by decide +kernel
theorem dX1_allPurses_18 : decode cX1_allPurses 18 = .ok (.iaload, 1) := by decide +kernel
theorem dX1_allPurses_19 : decode cX1_allPurses 19 = .ok (.iadd, 1) := by decide +kernel
theorem dX1_allPurses_20 : decode cX1_allPurses 20 = .ok (.istore_n 1, 1) := by decide +kernel
theorem dX1_allPurses_21 : decode cX1_allPurses 21 = .ok (.iinc 2 1, 3) := by decide +kernel
theorem dX1_allPurses_24 : decode cX1_allPurses 24 = .ok (.goto (-20), 3) := by decide +kernel
theorem dX1_allPurses_27 : decode cX1_allPurses 27 = .ok (.iload_n 1, 1) := by decide +kernel
theorem dX1_allPurses_28 : decode cX1_allPurses 28 = .ok (.ireturn, 1) := by decide +kernel
theorem dX1_allSooted_0 : decode cX1_allSooted 0 = .ok (.iconst 0, 1) := by decide +kernel
theorem dX1_allSooted_1 : decode cX1_allSooted 1 = .ok (.istore_n 1, 1) := by decide +kernel
theorem dX1_allSooted_2 : decode cX1_allSooted 2 = .ok (.iconst 0, 1) := by decide +kernel
theorem dX1_allSooted_3 : decode cX1_allSooted 3 = .ok (.istore_n 2, 1) := by decide +kernel
theorem dX1_allSooted_4 : decode cX1_allSooted 4 = .ok (.iload_n 2, 1) := by decide +kernel
theorem dX1_allSooted_5 : decode cX1_allSooted 5 = .ok (.aload_n 0, 1) := by decide +kernel
theorem dX1_allSooted_6 : decode cX1_allSooted 6 = .ok (.getfield 9, 3) := by decide +kernel
theorem dX1_allSooted_9 : decode cX1_allSooted 9 = .ok (.if_icmp .ge 24, 3) := by decide +kernel
theorem dX1_allSooted_12 : decode cX1_allSooted 12 = .ok (.aload_n 0, 1) := by decide +kernel
theorem dX1_allSooted_13 : decode cX1_allSooted 13 = .ok (.getfield 28, 3) := by decide +kernel
theorem dX1_allSooted_16 : decode cX1_allSooted 16 = .ok (.iload_n 2, 1) := by decide +kernel
theorem dX1_allSooted_17 : decode cX1_allSooted 17 = .ok (.iaload, 1) := by decide +kernel
theorem dX1_allSooted_18 : decode cX1_allSooted 18 = .ok (.ifCond .le 9, 3) := by decide +kernel
theorem dX1_allSooted_21 : decode cX1_allSooted 21 = .ok (.iload_n 1, 1) := by decide +kernel
theorem dX1_allSooted_22 : decode cX1_allSooted 22 = .ok (.iconst 1, 1) := by decide +kernel
theorem dX1_allSooted_23 : decode cX1_allSooted 23 = .ok (.iload_n 2, 1) := by decide +kernel
theorem dX1_allSooted_24 : decode cX1_allSooted 24 = .ok (.ishl, 1) := by decide +kernel
theorem dX1_allSooted_25 : decode cX1_allSooted 25 = .ok (.ior, 1) := by decide +kernel
theorem dX1_allSooted_26 : decode cX1_allSooted 26 = .ok (.istore_n 1, 1) := by decide +kernel
theorem dX1_allSooted_27 : decode cX1_allSooted 27 = .ok (.iinc 2 1, 3) := by decide +kernel
theorem dX1_allSooted_30 : decode cX1_allSooted 30 = .ok (.goto (-26), 3) := by decide +kernel
theorem dX1_allSooted_33 : decode cX1_allSooted 33 = .ok (.iload_n 1, 1) := by decide +kernel
theorem dX1_allSooted_34 : decode cX1_allSooted 34 = .ok (.ireturn, 1) := by decide +kernel
theorem dX1_allOf_0 : decode cX1_allOf 0 = .ok (.iconst 0, 1) := by decide +kernel
theorem dX1_allOf_1 : decode cX1_allOf 1 = .ok (.istore_n 2, 1) := by decide +kernel
theorem dX1_allOf_2 : decode cX1_allOf 2 = .ok (.iconst 0, 1) := by decide +kernel
theorem dX1_allOf_3 : decode cX1_allOf 3 = .ok (.istore_n 3, 1) := by decide +kernel
theorem dX1_allOf_4 : decode cX1_allOf 4 = .ok (.iload_n 3, 1) := by decide +kernel
theorem dX1_allOf_5 : decode cX1_allOf 5 = .ok (.aload_n 0, 1) := by decide +kernel
theorem dX1_allOf_6 : decode cX1_allOf 6 = .ok (.getfield 9, 3) := by decide +kernel
theorem dX1_allOf_9 : decode cX1_allOf 9 = .ok (.if_icmp .ge 25, 3) := by decide +kernel
theorem dX1_allOf_12 : decode cX1_allOf 12 = .ok (.aload_n 0, 1) := by decide +kernel
theorem dX1_allOf_13 : decode cX1_allOf 13 = .ok (.getfield 15, 3) := by decide +kernel
theorem dX1_allOf_16 : decode cX1_allOf 16 = .ok (.iload_n 3, 1) := by decide +kernel
theorem dX1_allOf_17 : decode cX1_allOf 17 = .ok (.iaload, 1) := by decide +kernel
theorem dX1_allOf_18 : decode cX1_allOf 18 = .ok (.iload_n 1, 1) := by decide +kernel
theorem dX1_allOf_19 : decode cX1_allOf 19 = .ok (.invokestatic 83, 3) := by decide +kernel
theorem dX1_allOf_22 : decode cX1_allOf 22 = .ok (.ifCond .eq 6, 3) := by decide +kernel
theorem dX1_allOf_25 : decode cX1_allOf 25 = .ok (.iinc 2 1, 3) := by decide +kernel
theorem dX1_allOf_28 : decode cX1_allOf 28 = .ok (.iinc 3 1, 3) := by decide +kernel
theorem dX1_allOf_31 : decode cX1_allOf 31 = .ok (.goto (-27), 3) := by decide +kernel
theorem dX1_allOf_34 : decode cX1_allOf 34 = .ok (.iload_n 2, 1) := by decide +kernel
theorem dX1_allOf_35 : decode cX1_allOf 35 = .ok (.ireturn, 1) := by decide +kernel
end
section
theorem dX2_init_0 : decode cX2_init 0 = .ok (.aload_n 0, 1) := by decide +kernel
theorem dX2_init_1 : decode cX2_init 1 = .ok (.invokespecial 3, 3) := by decide +kernel
theorem dX2_init_4 : decode cX2_init 4 = .ok (.aload_n 0, 1) := by decide +kernel
theorem dX2_init_5 : decode cX2_init 5 = .ok (.iconst 0, 1) := by decide +kernel
theorem dX2_init_6 : decode cX2_init 6 = .ok (.iload_n 1, 1) := by decide +kernel
theorem dX2_init_7 : decode cX2_init 7 = .ok (.invokestatic 9, 3) := by decide +kernel
theorem dX2_init_10 : decode cX2_init 10 = .ok (.iconst 0, 1) := by decide +kernel
theorem dX2_init_11 : decode cX2_init 11 = .ok (.iload_n 2, 1) := by decide +kernel
theorem dX2_init_12 : decode cX2_init 12 = .ok (.invokestatic 9, 3) := by decide +kernel
theorem dX2_init_15 : decode cX2_init 15 = .ok (.multianewarray 15 2, 4) := by decide +kernel
theorem dX2_init_19 : decode cX2_init 19 = .ok (.putfield 17, 3) := by decide +kernel
theorem dX2_init_22 : decode cX2_init 22 = .ok (.aload_n 0, 1) := by decide +kernel
theorem dX2_init_23 : decode cX2_init 23 = .ok (.iconst 0, 1) := by decide +kernel
theorem dX2_init_24 : decode cX2_init 24 = .ok (.iload_n 1, 1) := by decide +kernel
theorem dX2_init_25 : decode cX2_init 25 = .ok (.invokestatic 9, 3) := by decide +kernel
theorem dX2_init_28 : decode cX2_init 28 = .ok (.newarray .int, 2) := by decide +kernel
theorem dX2_init_30 : decode cX2_init 30 = .ok (.putfield 22, 3) := by decide +kernel
theorem dX2_init_33 : decode cX2_init 33 = .ok (.aload_n 0, 1) := by decide +kernel
theorem dX2_init_34 : decode cX2_init 34 = .ok (.iload_n 3, 1) := by decide +kernel
theorem dX2_init_35 : decode cX2_init 35 = .ok (.putfield 26, 3) := by decide +kernel
theorem dX2_init_38 : decode cX2_init 38 = .ok (.aload_n 0, 1) := by decide +kernel
theorem dX2_init_39 : decode cX2_init 39 = .ok (.getfield 22, 3) := by decide +kernel
theorem dX2_init_42 : decode cX2_init 42 = .ok (.iconst (-1), 1) := by decide +kernel
theorem dX2_init_43 : decode cX2_init 43 = .ok (.invokestatic 30, 3) := by decide +kernel
theorem dX2_init_46 : decode cX2_init 46 = .ok (.return_, 1) := by decide +kernel
theorem dX2_lie_0 : decode cX2_lie 0 = .ok (.aload_n 0, 1) := by decide +kernel
theorem dX2_lie_1 : decode cX2_lie 1 = .ok (.getfield 22, 3) := by decide +kernel
theorem dX2_lie_4 : decode cX2_lie 4 = .ok (.iload_n 1, 1) := by decide +kernel
theorem dX2_lie_5 : decode cX2_lie 5 = .ok (.iload_n 2, 1) := by decide +kernel
theorem dX2_lie_6 : decode cX2_lie 6 = .ok (.iastore, 1) := by decide +kernel
theorem dX2_lie_7 : decode cX2_lie 7 = .ok (.iconst 0, 1) := by decide +kernel
theorem dX2_lie_8 : decode cX2_lie 8 = .ok (.istore_n 3, 1) := by decide +kernel
theorem dX2_lie_9 : decode cX2_lie 9 = .ok (.iload_n 3, 1) := by decide +kernel
theorem dX2_lie_10 : decode cX2_lie 10 = .ok (.iload_n 2, 1) := by decide +kernel
theorem dX2_lie_11 : decode cX2_lie 11 = .ok (.if_icmp .ge 21, 3) := by decide +kernel
theorem dX2_lie_14 : decode cX2_lie 14 = .ok (.aload_n 0, 1) := by decide +kernel
theorem dX2_lie_15 : decode cX2_lie 15 = .ok (.getfield 17, 3) := by decide +kernel
theorem dX2_lie_18 : decode cX2_lie 18 = .ok (.iload_n 1, 1) := by decide +kernel
theorem dX2_lie_19 : decode cX2_lie 19 = .ok (.aaload, 1) := by decide +kernel
theorem dX2_lie_20 : decode cX2_lie 20 = .ok (.iload_n 3, 1) := by decide +kernel
theorem dX2_lie_21 : decode cX2_lie 21 = .ok (.aload_n 0, 1) := by decide +kernel
theorem dX2_lie_22 : decode cX2_lie 22 = .ok (.getfield 26, 3) := by decide +kernel
theorem dX2_lie_25 : decode cX2_lie 25 = .ok (.iastore, 1) := by decide +kernel
theorem dX2_lie_26 : decode cX2_lie 26 = .ok (.iinc 3 1, 3) := by decide +kernel
theorem dX2_lie_29 : decode cX2_lie 29 = .ok (.goto (-20), 3) := by decide +kernel
theorem dX2_lie_32 : decode cX2_lie 32 = .ok (.return_, 1) := by decide +kernel
theorem dX2_has_0 : decode cX2_has 0 = .ok (.aload_n 0, 1) := by decide +kernel
theorem dX2_has_1 : decode cX2_has 1 = .ok (.getfield 22, 3) := by decide +kernel
theorem dX2_has_4 : decode cX2_has 4 = .ok (.iload_n 1, 1) := by decide +kernel
theorem dX2_has_5 : decode cX2_has 5 = .ok (.iaload, 1) := by decide +kernel
theorem dX2_has_6 : decode cX2_has 6 = .ok (.iconst (-1), 1) := by decide +kernel
theorem dX2_has_7 : decode cX2_has 7 = .ok (.if_icmp .eq 7, 3) := by decide +kernel
theorem dX2_has_10 : decode cX2_has 10 = .ok (.iconst 1, 1) := by decide +kernel
theorem dX2_has_11 : decode cX2_has 11 = .ok (.goto 4, 3) := by decide +kernel
theorem dX2_has_14 : decode cX2_has 14 = .ok (.iconst 0, 1) := by decide +kernel
theorem dX2_has_15 : decode cX2_has 15 = .ok (.ireturn, 1) := by decide +kernel
theorem dX2_reaches_0 : decode cX2_reaches 0 = .ok (.iload_n 2, 1) := by decide +kernel
theorem dX2_reaches_1 : decode cX2_reaches 1 = .ok (.ifCond .lt 19, 3) := by decide +kernel
theorem dX2_reaches_4 : decode cX2_reaches 4 = .ok (.iload_n 3, 1) := by decide +kernel
theorem dX2_reaches_5 : decode cX2_reaches 5 = .ok (.aload_n 0, 1) := by decide +kernel
theorem dX2_reaches_6 : decode cX2_reaches 6 = .ok (.getfield 22, 3) := by decide +kernel
theorem dX2_reaches_9 : decode cX2_reaches 9 = .ok (.iload_n 1, 1) := by decide +kernel
theorem dX2_reaches_10 : decode cX2_reaches 10 = .ok (.iaload, 1) := by decide +kernel
theorem dX2_reaches_11 : decode cX2_reaches 11 = .ok (.iload_n 2, 1) := by decide +kernel
theorem dX2_reaches_12 : decode cX2_reaches 12 = .ok (.isub, 1) := by decide +kernel
theorem dX2_reaches_13 : decode cX2_reaches 13 = .ok (.if_icmp .gt 7, 3) := by decide +kernel
theorem dX2_reaches_16 : decode cX2_reaches 16 = .ok (.iconst 1, 1) := by decide +kernel
theorem dX2_reaches_17 : decode cX2_reaches 17 = .ok (.goto 4, 3) := by decide +kernel
theorem dX2_reaches_20 : decode cX2_reaches 20 = .ok (.iconst 0, 1) := by decide +kernel
theorem dX2_reaches_21 : decode cX2_reaches 21 = .ok (.ireturn, 1) := by decide +kernel
theorem dX2_sum_0 : decode cX2_sum 0 = .ok (.lconst 0, 1) := by decide +kernel
theorem dX2_sum_1 : decode cX2_sum 1 = .ok (.lstore_n 2, 1) := by decide +kernel
theorem dX2_sum_2 : decode cX2_sum 2 = .ok (.iconst 0, 1) := by decide +kernel
theorem dX2_sum_3 : decode cX2_sum 3 = .ok (.istore 4, 2) := by decide +kernel
theorem dX2_sum_5 : decode cX2_sum 5 = .ok (.iload 4, 2) := by decide +kernel
theorem dX2_sum_7 : decode cX2_sum 7 = .ok (.aload_n 0, 1) := by decide +kernel
theorem dX2_sum_8 : decode cX2_sum 8 = .ok (.getfield 22, 3) := by decide +kernel
theorem dX2_sum_11 : decode cX2_sum 11 = .ok (.iload_n 1, 1) := by decide +kernel
theorem dX2_sum_12 : decode cX2_sum 12 = .ok (.iaload, 1) := by decide +kernel
theorem dX2_sum_13 : decode cX2_sum 13 = .ok (.if_icmp .ge 22, 3) := by decide +kernel
theorem dX2_sum_16 : decode cX2_sum 16 = .ok (.lload_n 2, 1) := by decide +kernel
theorem dX2_sum_17 : decode cX2_sum 17 = .ok (.aload_n 0, 1) := by decide +kernel
theorem dX2_sum_18 : decode cX2_sum 18 = .ok (.getfield 17, 3) := by decide +kernel
theorem dX2_sum_21 : decode cX2_sum 21 = .ok (.iload_n 1, 1) := by decide +kernel
theorem dX2_sum_22 : decode cX2_sum 22 = .ok (.aaload, 1) := by decide +kernel
theorem dX2_sum_23 : decode cX2_sum 23 = .ok (.iload 4, 2) := by decide +kernel
theorem dX2_sum_25 : decode cX2_sum 25 = .ok (.iaload, 1) := by decide +kernel
theorem dX2_sum_26 : decode cX2_sum 26 = .ok (.i2l, 1) := by decide +kernel
theorem dX2_sum_27 : decode cX2_sum 27 = .ok (.ladd, 1) := by decide +kernel
theorem dX2_sum_28 : decode cX2_sum 28 = .ok (.lstore_n 2, 1) := by decide +kernel
theorem dX2_sum_29 : decode cX2_sum 29 = .ok (.iinc 4 1, 3) := by decide +kernel
theorem dX2_sum_32 : decode cX2_sum 32 = .ok (.goto (-27), 3) := by decide +kernel
theorem dX2_sum_35 : decode cX2_sum 35 = .ok (.lload_n 2, 1) := by decide +kernel
theorem dX2_sum_36 : decode cX2_sum 36 = .ok (.lreturn, 1) := by decide +kernel
theorem dX2_present_0 : decode cX2_present 0 = .ok (.iconst 0, 1) := by decide +kernel
theorem dX2_present_1 : decode cX2_present 1 = .ok (.istore_n 1, 1) := by decide +kernel
theorem dX2_present_2 : decode cX2_present 2 = .ok (.iconst 0, 1) := by decide +kernel
theorem dX2_present_3 : decode cX2_present 3 = .ok (.istore_n 2, 1) := by decide +kernel
theorem dX2_present_4 : decode cX2_present 4 = .ok (.iload_n 2, 1) := by decide +kernel
theorem dX2_present_5 : decode cX2_present 5 = .ok (.aload_n 0, 1) := by decide +kernel
theorem dX2_present_6 : decode cX2_present 6 = .ok (.getfield 22, 3) := by decide +kernel
theorem dX2_present_9 : decode cX2_present 9 = .ok (.arraylength, 1) := by decide +kernel
theorem dX2_present_10 : decode cX2_present 10 = .ok (.if_icmp .ge 20, 3) := by decide +kernel
theorem dX2_present_13 : decode cX2_present 13 = .ok (.aload_n 0, 1) := by decide +kernel
theorem dX2_present_14 : decode cX2_present 14 = .ok (.iload_n 2, 1) := by decide +kernel
theorem dX2_present_15 : decode cX2_present 15 = .ok (.invokevirtual 36, 3) := by decide +kernel
theorem dX2_present_18 : decode cX2_present 18 = .ok (.ifCond .eq 6, 3) := by decide +kernel
theorem dX2_present_21 : decode cX2_present 21 = .ok (.iinc 1 1, 3) := by decide +kernel
theorem dX2_present_24 : decode cX2_present 24 = .ok (.iinc 2 1, 3) := by decide +kernel
theorem dX2_present_27 : decode cX2_present 27 = .ok (.goto (-23), 3) := by decide +kernel
theorem dX2_present_30 : decode cX2_present 30 = .ok (.iload_n 1, 1) := by decide +kernel
theorem dX2_present_31 : decode cX2_present 31 = .ok (.ireturn, 1) := by decide +kernel
theorem dX2_mixInto_0 : decode cX2_mixInto 0 = .ok (.lload_n 1, 1) := by decide +kernel
theorem dX2_mixInto_1 : decode cX2_mixInto 1 = .ok (.lstore_n 3, 1) := by decide +kernel
theorem dX2_mixInto_2 : decode cX2_mixInto 2 = .ok (.iconst 0, 1) := by decide +kernel
theorem dX2_mixInto_3 : decode cX2_mixInto 3 = .ok (.istore 5, 2) := by decide +kernel
theorem dX2_mixInto_5 : decode cX2_mixInto 5 = .ok (.iload 5, 2) := by decide +kernel
theorem dX2_mixInto_7 : decode cX2_mixInto 7 = .ok (.aload_n 0, 1) := by decide +kernel
theorem dX2_mixInto_8 : decode cX2_mixInto 8 = .ok (.getfield 22, 3) := by decide +kernel
theorem dX2_mixInto_11 : decode cX2_mixInto 11 = .ok (.arraylength, 1) := by decide +kernel
theorem dX2_mixInto_12 : decode cX2_mixInto 12 = .ok (.if_icmp .ge 63, 3) := by decide +kernel
theorem dX2_mixInto_15 : decode cX2_mixInto 15 = .ok (.ldc2_w 40, 3) := by decide +kernel
theorem dX2_mixInto_18 : decode cX2_mixInto 18 = .ok (.lload_n 3, 1) := by decide +kernel
theorem dX2_mixInto_19 : decode cX2_mixInto 19 = .ok (.lmul, 1) := by decide +kernel
theorem dX2_mixInto_20 : decode cX2_mixInto 20 = .ok (.aload_n 0, 1) := by decide +kernel
theorem dX2_mixInto_21 : decode cX2_mixInto 21 = .ok (.getfield 22, 3) := by decide +kernel
theorem dX2_mixInto_24 : decode cX2_mixInto 24 = .ok (.iload 5, 2) := by decide +kernel
theorem dX2_mixInto_26 : decode cX2_mixInto 26 = .ok (.iaload, 1) := by decide +kernel
theorem dX2_mixInto_27 : decode cX2_mixInto 27 = .ok (.i2l, 1) := by decide +kernel
theorem dX2_mixInto_28 : decode cX2_mixInto 28 = .ok (.ladd, 1) := by decide +kernel
theorem dX2_mixInto_29 : decode cX2_mixInto 29 = .ok (.lstore_n 3, 1) := by decide +kernel
theorem dX2_mixInto_30 : decode cX2_mixInto 30 = .ok (.iconst 0, 1) := by decide +kernel
theorem dX2_mixInto_31 : decode cX2_mixInto 31 = .ok (.istore 6, 2) := by decide +kernel
theorem dX2_mixInto_33 : decode cX2_mixInto 33 = .ok (.iload 6, 2) := by decide +kernel
theorem dX2_mixInto_35 : decode cX2_mixInto 35 = .ok (.aload_n 0, 1) := by decide +kernel
theorem dX2_mixInto_36 : decode cX2_mixInto 36 = .ok (.getfield 22, 3) := by decide +kernel
theorem dX2_mixInto_39 : decode cX2_mixInto 39 = .ok (.iload 5, 2) := by decide +kernel
theorem dX2_mixInto_41 : decode cX2_mixInto 41 = .ok (.iaload, 1) := by decide +kernel
theorem dX2_mixInto_42 : decode cX2_mixInto 42 = .ok (.if_icmp .ge 27, 3) := by decide +kernel
theorem dX2_mixInto_45 : decode cX2_mixInto 45 = .ok (.ldc2_w 40, 3) := by decide +kernel
theorem dX2_mixInto_48 : decode cX2_mixInto 48 = .ok (.lload_n 3, 1) := by decide +kernel
theorem dX2_mixInto_49 : decode cX2_mixInto 49 = .ok (.lmul, 1) := by decide +kernel
theorem dX2_mixInto_50 : decode cX2_mixInto 50 = .ok (.aload_n 0, 1) := by decide +kernel
theorem dX2_mixInto_51 : decode cX2_mixInto 51 = .ok (.getfield 17, 3) := by decide +kernel
theorem dX2_mixInto_54 : decode cX2_mixInto 54 = .ok (.iload 5, 2) := by decide +kernel
theorem dX2_mixInto_56 : decode cX2_mixInto 56 = .ok (.aaload, 1) := by decide +kernel
theorem dX2_mixInto_57 : decode cX2_mixInto 57 = .ok (.iload 6, 2) := by decide +kernel
theorem dX2_mixInto_59 : decode cX2_mixInto 59 = .ok (.iaload, 1) := by decide +kernel
theorem dX2_mixInto_60 : decode cX2_mixInto 60 = .ok (.i2l, 1) := by decide +kernel
theorem dX2_mixInto_61 : decode cX2_mixInto 61 = .ok (.ladd, 1) := by decide +kernel
theorem dX2_mixInto_62 : decode cX2_mixInto 62 = .ok (.lstore_n 3, 1) := by decide +kernel
theorem dX2_mixInto_63 : decode cX2_mixInto 63 = .ok (.iinc 6 1, 3) := by decide +kernel
theorem dX2_mixInto_66 : decode cX2_mixInto 66 = .ok (.goto (-33), 3) := by decide +kernel
theorem dX2_mixInto_69 : decode cX2_mixInto 69 = .ok (.iinc 5 1, 3) := by decide +kernel
theorem dX2_mixInto_72 : decode cX2_mixInto 72 = .ok (.goto (-67), 3) := by decide +kernel
theorem dX2_mixInto_75 : decode cX2_mixInto 75 = .ok (.lload_n 3, 1) := by decide +kernel
theorem dX2_mixInto_76 : decode cX2_mixInto 76 = .ok (.lreturn, 1) := by decide +kernel
end
section
theorem dX3_init_0 : decode cX3_init 0 = .ok (.aload_n 0, 1) := by decide +kernel
theorem dX3_init_1 : decode cX3_init 1 = .ok (.invokespecial 1, 3) := by decide +kernel
theorem dX3_init_4 : decode cX3_init 4 = .ok (.aload_n 0, 1) := by decide +kernel
theorem dX3_init_5 : decode cX3_init 5 = .ok (.new 7, 3) := by decide +kernel
theorem dX3_init_8 : decode cX3_init 8 = .ok (.dup, 1) := by decide +kernel
theorem dX3_init_9 : decode cX3_init 9 = .ok (.bipush 6, 2) := by decide +kernel
theorem dX3_init_11 : decode cX3_init 11 = .ok (.bipush 40, 2) := by decide +kernel
theorem dX3_init_13 : decode cX3_init 13 = .ok (.iconst 0, 1) := by decide +kernel
theorem dX3_init_14 : decode cX3_init 14 = .ok (.invokespecial 11, 3) := by decide +kernel
theorem dX3_init_17 : decode cX3_init 17 = .ok (.putfield 14, 3) := by decide +kernel
theorem dX3_init_20 : decode cX3_init 20 = .ok (.aload_n 0, 1) := by decide +kernel
theorem dX3_init_21 : decode cX3_init 21 = .ok (.new 7, 3) := by decide +kernel
theorem dX3_init_24 : decode cX3_init 24 = .ok (.dup, 1) := by decide +kernel
theorem dX3_init_25 : decode cX3_init 25 = .ok (.iconst 4, 1) := by decide +kernel
theorem dX3_init_26 : decode cX3_init 26 = .ok (.bipush 60, 2) := by decide +kernel
theorem dX3_init_28 : decode cX3_init 28 = .ok (.bipush 32, 2) := by decide +kernel
theorem dX3_init_30 : decode cX3_init 30 = .ok (.invokespecial 11, 3) := by decide +kernel
theorem dX3_init_33 : decode cX3_init 33 = .ok (.putfield 18, 3) := by decide +kernel
theorem dX3_init_36 : decode cX3_init 36 = .ok (.aload_n 0, 1) := by decide +kernel
theorem dX3_init_37 : decode cX3_init 37 = .ok (.new 21, 3) := by decide +kernel
theorem dX3_init_40 : decode cX3_init 40 = .ok (.dup, 1) := by decide +kernel
theorem dX3_init_41 : decode cX3_init 41 = .ok (.invokespecial 23, 3) := by decide +kernel
theorem dX3_init_44 : decode cX3_init 44 = .ok (.putfield 24, 3) := by decide +kernel
theorem dX3_init_47 : decode cX3_init 47 = .ok (.aload_n 0, 1) := by decide +kernel
theorem dX3_init_48 : decode cX3_init 48 = .ok (.new 28, 3) := by decide +kernel
theorem dX3_init_51 : decode cX3_init 51 = .ok (.dup, 1) := by decide +kernel
theorem dX3_init_52 : decode cX3_init 52 = .ok (.invokespecial 30, 3) := by decide +kernel
theorem dX3_init_55 : decode cX3_init 55 = .ok (.putfield 31, 3) := by decide +kernel
theorem dX3_init_58 : decode cX3_init 58 = .ok (.aload_n 0, 1) := by decide +kernel
theorem dX3_init_59 : decode cX3_init 59 = .ok (.bipush 16, 2) := by decide +kernel
theorem dX3_init_61 : decode cX3_init 61 = .ok (.newarray .int, 2) := by decide +kernel
theorem dX3_init_63 : decode cX3_init 63 = .ok (.putfield 35, 3) := by decide +kernel
theorem dX3_init_66 : decode cX3_init 66 = .ok (.aload_n 0, 1) := by decide +kernel
theorem dX3_init_67 : decode cX3_init 67 = .ok (.bipush 16, 2) := by decide +kernel
theorem dX3_init_69 : decode cX3_init 69 = .ok (.newarray .int, 2) := by decide +kernel
theorem dX3_init_71 : decode cX3_init 71 = .ok (.putfield 39, 3) := by decide +kernel
theorem dX3_init_74 : decode cX3_init 74 = .ok (.aload_n 0, 1) := by decide +kernel
theorem dX3_init_75 : decode cX3_init 75 = .ok (.bipush 6, 2) := by decide +kernel
theorem dX3_init_77 : decode cX3_init 77 = .ok (.newarray .int, 2) := by decide +kernel
theorem dX3_init_79 : decode cX3_init 79 = .ok (.putfield 42, 3) := by decide +kernel
theorem dX3_init_82 : decode cX3_init 82 = .ok (.aload_n 0, 1) := by decide +kernel
theorem dX3_init_83 : decode cX3_init 83 = .ok (.iconst 0, 1) := by decide +kernel
theorem dX3_init_84 : decode cX3_init 84 = .ok (.putfield 45, 3) := by decide +kernel
theorem dX3_init_87 : decode cX3_init 87 = .ok (.aload_n 0, 1) := by decide +kernel
theorem dX3_init_88 : decode cX3_init 88 = .ok (.iconst 0, 1) := by decide +kernel
theorem dX3_init_89 : decode cX3_init 89 = .ok (.putfield 49, 3) := by decide +kernel
theorem dX3_init_92 : decode cX3_init 92 = .ok (.aload_n 0, 1) := by decide +kernel
theorem dX3_init_93 : decode cX3_init 93 = .ok (.lconst 0, 1) := by decide +kernel
theorem dX3_init_94 : decode cX3_init 94 = .ok (.putfield 52, 3) := by decide +kernel
theorem dX3_init_97 : decode cX3_init 97 = .ok (.aload_n 0, 1) := by decide +kernel
theorem dX3_init_98 : decode cX3_init 98 = .ok (.lconst 1, 1) := by decide +kernel
theorem dX3_init_99 : decode cX3_init 99 = .ok (.putfield 56, 3) := by decide +kernel
theorem dX3_init_102 : decode cX3_init 102 = .ok (.return_, 1) := by decide +kernel
theorem dX3_row_0 : decode cX3_row 0 = .ok (.iload_n 1, 1) := by decide +kernel
theorem dX3_row_1 : decode cX3_row 1 = .ok (.invokestatic 59, 3) := by decide +kernel
theorem dX3_row_4 : decode cX3_row 4 = .ok (.ifCond .eq 9, 3) := by decide +kernel
theorem dX3_row_7 : decode cX3_row 7 = .ok (.iload_n 2, 1) := by decide +kernel
theorem dX3_row_8 : decode cX3_row 8 = .ok (.bipush 40, 2) := by decide +kernel
theorem dX3_row_10 : decode cX3_row 10 = .ok (.if_icmp .le 5, 3) := by decide +kernel
theorem dX3_row_13 : decode cX3_row 13 = .ok (.iconst (-1), 1) := by decide +kernel
theorem dX3_row_14 : decode cX3_row 14 = .ok (.ireturn, 1) := by decide +kernel
theorem dX3_row_15 : decode cX3_row 15 = .ok (.iload_n 2, 1) := by decide +kernel
theorem dX3_row_16 : decode cX3_row 16 = .ok (.ifCond .ge 9, 3) := by decide +kernel
theorem dX3_row_19 : decode cX3_row 19 = .ok (.aload_n 0, 1) := by decide +kernel
theorem dX3_row_20 : decode cX3_row 20 = .ok (.iconst 5, 1) := by decide +kernel
theorem dX3_row_21 : decode cX3_row 21 = .ok (.invokevirtual 63, 3) := by decide +kernel
theorem dX3_row_24 : decode cX3_row 24 = .ok (.ireturn, 1) := by decide +kernel
theorem dX3_row_25 : decode cX3_row 25 = .ok (.aload_n 0, 1) := by decide +kernel
theorem dX3_row_26 : decode cX3_row 26 = .ok (.getfield 14, 3) := by decide +kernel
theorem dX3_row_29 : decode cX3_row 29 = .ok (.iload_n 1, 1) := by decide +kernel
theorem dX3_row_30 : decode cX3_row 30 = .ok (.iload_n 2, 1) := by decide +kernel
theorem dX3_row_31 : decode cX3_row 31 = .ok (.invokevirtual 67, 3) := by decide +kernel
theorem dX3_row_34 : decode cX3_row 34 = .ok (.iload_n 2, 1) := by decide +kernel
theorem dX3_row_35 : decode cX3_row 35 = .ok (.ireturn, 1) := by decide +kernel
theorem dX3_lay_0 : decode cX3_lay 0 = .ok (.aload_n 0, 1) := by decide +kernel
theorem dX3_lay_1 : decode cX3_lay 1 = .ok (.iload_n 1, 1) := by decide +kernel
theorem dX3_lay_2 : decode cX3_lay 2 = .ok (.iload_n 2, 1) := by decide +kernel
theorem dX3_lay_3 : decode cX3_lay 3 = .ok (.invokevirtual 71, 3) := by decide +kernel
theorem dX3_lay_6 : decode cX3_lay 6 = .ok (.istore 4, 2) := by decide +kernel
theorem dX3_lay_8 : decode cX3_lay 8 = .ok (.iload 4, 2) := by decide +kernel
theorem dX3_lay_10 : decode cX3_lay 10 = .ok (.ifCond .eq 6, 3) := by decide +kernel
theorem dX3_lay_13 : decode cX3_lay 13 = .ok (.iload 4, 2) := by decide +kernel
theorem dX3_lay_15 : decode cX3_lay 15 = .ok (.ireturn, 1) := by decide +kernel
theorem dX3_lay_16 : decode cX3_lay 16 = .ok (.aload_n 0, 1) := by decide +kernel
theorem dX3_lay_17 : decode cX3_lay 17 = .ok (.aload_n 0, 1) := by decide +kernel
theorem dX3_lay_18 : decode cX3_lay 18 = .ok (.getfield 14, 3) := by decide +kernel
theorem dX3_lay_21 : decode cX3_lay 21 = .ok (.getfield 75, 3) := by decide +kernel
theorem dX3_lay_24 : decode cX3_lay 24 = .ok (.iload_n 1, 1) := by decide +kernel
theorem dX3_lay_25 : decode cX3_lay 25 = .ok (.aaload, 1) := by decide +kernel
theorem dX3_lay_26 : decode cX3_lay 26 = .ok (.iload_n 2, 1) := by decide +kernel
theorem dX3_lay_27 : decode cX3_lay 27 = .ok (.iaload, 1) := by decide +kernel
theorem dX3_lay_28 : decode cX3_lay 28 = .ok (.putfield 49, 3) := by decide +kernel
theorem dX3_lay_31 : decode cX3_lay 31 = .ok (.aload_n 0, 1) := by decide +kernel
theorem dX3_lay_32 : decode cX3_lay 32 = .ok (.getfield 14, 3) := by decide +kernel
theorem dX3_lay_35 : decode cX3_lay 35 = .ok (.getfield 75, 3) := by decide +kernel
theorem dX3_lay_38 : decode cX3_lay 38 = .ok (.iload_n 1, 1) := by decide +kernel
theorem dX3_lay_39 : decode cX3_lay 39 = .ok (.aaload, 1) := by decide +kernel
theorem dX3_lay_40 : decode cX3_lay 40 = .ok (.iload_n 2, 1) := by decide +kernel
theorem dX3_lay_41 : decode cX3_lay 41 = .ok (.iload_n 3, 1) := by decide +kernel
theorem dX3_lay_42 : decode cX3_lay 42 = .ok (.iastore, 1) := by decide +kernel
theorem dX3_lay_43 : decode cX3_lay 43 = .ok (.iconst 1, 1) := by decide +kernel
theorem dX3_lay_44 : decode cX3_lay 44 = .ok (.ireturn, 1) := by decide +kernel
theorem dX3_at_0 : decode cX3_at 0 = .ok (.aload_n 0, 1) := by decide +kernel
theorem dX3_at_1 : decode cX3_at 1 = .ok (.iload_n 1, 1) := by decide +kernel
theorem dX3_at_2 : decode cX3_at 2 = .ok (.iload_n 2, 1) := by decide +kernel
theorem dX3_at_3 : decode cX3_at 3 = .ok (.invokevirtual 71, 3) := by decide +kernel
theorem dX3_at_6 : decode cX3_at 6 = .ok (.istore_n 3, 1) := by decide +kernel
theorem dX3_at_7 : decode cX3_at 7 = .ok (.iload_n 3, 1) := by decide +kernel
theorem dX3_at_8 : decode cX3_at 8 = .ok (.ifCond .eq 5, 3) := by decide +kernel
theorem dX3_at_11 : decode cX3_at 11 = .ok (.iload_n 3, 1) := by decide +kernel
theorem dX3_at_12 : decode cX3_at 12 = .ok (.ireturn, 1) := by decide +kernel
theorem dX3_at_13 : decode cX3_at 13 = .ok (.aload_n 0, 1) := by decide +kernel
theorem dX3_at_14 : decode cX3_at 14 = .ok (.aload_n 0, 1) := by decide +kernel
theorem dX3_at_15 : decode cX3_at 15 = .ok (.getfield 14, 3) := by decide +kernel
theorem dX3_at_18 : decode cX3_at 18 = .ok (.getfield 75, 3) := by decide +kernel
theorem dX3_at_21 : decode cX3_at 21 = .ok (.iload_n 1, 1) := by decide +kernel
theorem dX3_at_22 : decode cX3_at 22 = .ok (.aaload, 1) := by decide +kernel
theorem dX3_at_23 : decode cX3_at 23 = .ok (.iload_n 2, 1) := by decide +kernel
theorem dX3_at_24 : decode cX3_at 24 = .ok (.iaload, 1) := by decide +kernel
theorem dX3_at_25 : decode cX3_at 25 = .ok (.iconst 1, 1) := by decide +kernel
theorem dX3_at_26 : decode cX3_at 26 = .ok (.invokevirtual 79, 3) := by decide +kernel
theorem dX3_at_29 : decode cX3_at 29 = .ok (.ireturn, 1) := by decide +kernel
theorem dX3_tear_0 : decode cX3_tear 0 = .ok (.iload_n 1, 1) := by decide +kernel
theorem dX3_tear_1 : decode cX3_tear 1 = .ok (.invokestatic 59, 3) := by decide +kernel
theorem dX3_tear_4 : decode cX3_tear 4 = .ok (.ifCond .ne 5, 3) := by decide +kernel
theorem dX3_tear_7 : decode cX3_tear 7 = .ok (.iconst (-1), 1) := by decide +kernel
theorem dX3_tear_8 : decode cX3_tear 8 = .ok (.ireturn, 1) := by decide +kernel
theorem dX3_tear_9 : decode cX3_tear 9 = .ok (.aload_n 0, 1) := by decide +kernel
theorem dX3_tear_10 : decode cX3_tear 10 = .ok (.getfield 14, 3) := by decide +kernel
theorem dX3_tear_13 : decode cX3_tear 13 = .ok (.iload_n 1, 1) := by decide +kernel
theorem dX3_tear_14 : decode cX3_tear 14 = .ok (.invokevirtual 82, 3) := by decide +kernel
theorem dX3_tear_17 : decode cX3_tear 17 = .ok (.ifCond .ne 9, 3) := by decide +kernel
theorem dX3_tear_20 : decode cX3_tear 20 = .ok (.aload_n 0, 1) := by decide +kernel
theorem dX3_tear_21 : decode cX3_tear 21 = .ok (.iconst 1, 1) := by decide +kernel
theorem dX3_tear_22 : decode cX3_tear 22 = .ok (.invokevirtual 63, 3) := by decide +kernel
theorem dX3_tear_25 : decode cX3_tear 25 = .ok (.ireturn, 1) := by decide +kernel
theorem dX3_tear_26 : decode cX3_tear 26 = .ok (.aload_n 0, 1) := by decide +kernel
theorem dX3_tear_27 : decode cX3_tear 27 = .ok (.getfield 14, 3) := by decide +kernel
theorem dX3_tear_30 : decode cX3_tear 30 = .ok (.getfield 85, 3) := by decide +kernel
theorem dX3_tear_33 : decode cX3_tear 33 = .ok (.iload_n 1, 1) := by decide +kernel
theorem dX3_tear_34 : decode cX3_tear 34 = .ok (.iconst (-1), 1) := by decide +kernel
theorem dX3_tear_35 : decode cX3_tear 35 = .ok (.iastore, 1) := by decide +kernel
theorem dX3_tear_36 : decode cX3_tear 36 = .ok (.iconst 1, 1) := by decide +kernel
theorem dX3_tear_37 : decode cX3_tear 37 = .ok (.ireturn, 1) := by decide +kernel
theorem dX3_copy_0 : decode cX3_copy 0 = .ok (.iload_n 1, 1) := by decide +kernel
theorem dX3_copy_1 : decode cX3_copy 1 = .ok (.invokestatic 59, 3) := by decide +kernel
theorem dX3_copy_4 : decode cX3_copy 4 = .ok (.ifCond .eq 10, 3) := by decide +kernel
theorem dX3_copy_7 : decode cX3_copy 7 = .ok (.iload_n 3, 1) := by decide +kernel
theorem dX3_copy_8 : decode cX3_copy 8 = .ok (.invokestatic 59, 3) := by decide +kernel
theorem dX3_copy_11 : decode cX3_copy 11 = .ok (.ifCond .ne 5, 3) := by decide +kernel
theorem dX3_copy_14 : decode cX3_copy 14 = .ok (.iconst (-1), 1) := by decide +kernel
theorem dX3_copy_15 : decode cX3_copy 15 = .ok (.ireturn, 1) := by decide +kernel
theorem dX3_copy_16 : decode cX3_copy 16 = .ok (.iload 5, 2) := by decide +kernel
theorem dX3_copy_18 : decode cX3_copy 18 = .ok (.ifCond .ge 9, 3) := by decide +kernel
theorem dX3_copy_21 : decode cX3_copy 21 = .ok (.aload_n 0, 1) := by decide +kernel
theorem dX3_copy_22 : decode cX3_copy 22 = .ok (.iconst 5, 1) := by decide +kernel
theorem dX3_copy_23 : decode cX3_copy 23 = .ok (.invokevirtual 63, 3) := by decide +kernel
theorem dX3_copy_26 : decode cX3_copy 26 = .ok (.ireturn, 1) := by decide +kernel
theorem dX3_copy_27 : decode cX3_copy 27 = .ok (.aload_n 0, 1) := by decide +kernel
theorem dX3_copy_28 : decode cX3_copy 28 = .ok (.getfield 14, 3) := by decide +kernel
theorem dX3_copy_31 : decode cX3_copy 31 = .ok (.iload_n 1, 1) := by decide +kernel
theorem dX3_copy_32 : decode cX3_copy 32 = .ok (.invokevirtual 82, 3) := by decide +kernel
theorem dX3_copy_35 : decode cX3_copy 35 = .ok (.ifCond .eq 14, 3) := by decide +kernel
theorem dX3_copy_38 : decode cX3_copy 38 = .ok (.aload_n 0, 1) := by decide +kernel
theorem dX3_copy_39 : decode cX3_copy 39 = .ok (.getfield 14, 3) := by decide +kernel
theorem dX3_copy_42 : decode cX3_copy 42 = .ok (.iload_n 3, 1) := by decide +kernel
theorem dX3_copy_43 : decode cX3_copy 43 = .ok (.invokevirtual 82, 3) := by decide +kernel
theorem dX3_copy_46 : decode cX3_copy 46 = .ok (.ifCond .ne 9, 3) := by decide +kernel
theorem dX3_copy_49 : decode cX3_copy 49 = .ok (.aload_n 0, 1) := by decide +kernel
theorem dX3_copy_50 : decode cX3_copy 50 = .ok (.iconst 1, 1) := by decide +kernel
theorem dX3_copy_51 : decode cX3_copy 51 = .ok (.invokevirtual 63, 3) := by decide +kernel
theorem dX3_copy_54 : decode cX3_copy 54 = .ok (.ireturn, 1) := by decide +kernel
theorem dX3_copy_55 : decode cX3_copy 55 = .ok (.aload_n 0, 1) := by decide +kernel
theorem dX3_copy_56 : decode cX3_copy 56 = .ok (.getfield 14, 3) := by decide +kernel
theorem dX3_copy_59 : decode cX3_copy 59 = .ok (.iload_n 1, 1) := by decide +kernel
theorem dX3_copy_60 : decode cX3_copy 60 = .ok (.iload_n 2, 1) := by decide +kernel
theorem dX3_copy_61 : decode cX3_copy 61 = .ok (.iload 5, 2) := by decide +kernel
theorem dX3_copy_63 : decode cX3_copy 63 = .ok (.invokevirtual 88, 3) := by decide +kernel
theorem dX3_copy_66 : decode cX3_copy 66 = .ok (.ifCond .eq 18, 3) := by decide +kernel
theorem dX3_copy_69 : decode cX3_copy 69 = .ok (.aload_n 0, 1) := by decide +kernel
theorem dX3_copy_70 : decode cX3_copy 70 = .ok (.getfield 14, 3) := by decide +kernel
theorem dX3_copy_73 : decode cX3_copy 73 = .ok (.iload_n 3, 1) := by decide +kernel
theorem dX3_copy_74 : decode cX3_copy 74 = .ok (.iload 4, 2) := by decide +kernel
theorem dX3_copy_76 : decode cX3_copy 76 = .ok (.iload 5, 2) := by decide +kernel
theorem dX3_copy_78 : decode cX3_copy 78 = .ok (.invokevirtual 88, 3) := by decide +kernel
theorem dX3_copy_81 : decode cX3_copy 81 = .ok (.ifCond .ne 9, 3) := by decide +kernel
theorem dX3_copy_84 : decode cX3_copy 84 = .ok (.aload_n 0, 1) := by decide +kernel
theorem dX3_copy_85 : decode cX3_copy 85 = .ok (.iconst 2, 1) := by decide +kernel
theorem dX3_copy_86 : decode cX3_copy 86 = .ok (.invokevirtual 63, 3) := by decide +kernel
theorem dX3_copy_89 : decode cX3_copy 89 = .ok (.ireturn, 1) := by decide +kernel
theorem dX3_copy_90 : decode cX3_copy 90 = .ok (.aload_n 0, 1) := by decide +kernel
theorem dX3_copy_91 : decode cX3_copy 91 = .ok (.getfield 14, 3) := by decide +kernel
theorem dX3_copy_94 : decode cX3_copy 94 = .ok (.getfield 75, 3) := by decide +kernel
theorem dX3_copy_97 : decode cX3_copy 97 = .ok (.iload_n 1, 1) := by decide +kernel
theorem dX3_copy_98 : decode cX3_copy 98 = .ok (.aaload, 1) := by decide +kernel
theorem dX3_copy_99 : decode cX3_copy 99 = .ok (.iload_n 2, 1) := by decide +kernel
theorem dX3_copy_100 : decode cX3_copy 100 = .ok (.aload_n 0, 1) := by decide +kernel
theorem dX3_copy_101 : decode cX3_copy 101 = .ok (.getfield 14, 3) := by decide +kernel
theorem dX3_copy_104 : decode cX3_copy 104 = .ok (.getfield 75, 3) := by decide +kernel
theorem dX3_copy_107 : decode cX3_copy 107 = .ok (.iload_n 3, 1) := by decide +kernel
theorem dX3_copy_108 : decode cX3_copy 108 = .ok (.aaload, 1) := by decide +kernel
theorem dX3_copy_109 : decode cX3_copy 109 = .ok (.iload 4, 2) := by decide +kernel
theorem dX3_copy_111 : decode cX3_copy 111 = .ok (.iload 5, 2) := by decide +kernel
theorem dX3_copy_113 : decode cX3_copy 113 = .ok (.invokestatic 92, 3) := by decide +kernel
theorem dX3_copy_116 : decode cX3_copy 116 = .ok (.iconst 1, 1) := by decide +kernel
theorem dX3_copy_117 : decode cX3_copy 117 = .ok (.ireturn, 1) := by decide +kernel
theorem dX3_mean_0 : decode cX3_mean 0 = .ok (.iload_n 1, 1) := by decide +kernel
theorem dX3_mean_1 : decode cX3_mean 1 = .ok (.invokestatic 59, 3) := by decide +kernel
theorem dX3_mean_4 : decode cX3_mean 4 = .ok (.ifCond .ne 5, 3) := by decide +kernel
theorem dX3_mean_7 : decode cX3_mean 7 = .ok (.iconst (-1), 1) := by decide +kernel
theorem dX3_mean_8 : decode cX3_mean 8 = .ok (.ireturn, 1) := by decide +kernel
theorem dX3_mean_9 : decode cX3_mean 9 = .ok (.aload_n 0, 1) := by decide +kernel
theorem dX3_mean_10 : decode cX3_mean 10 = .ok (.getfield 14, 3) := by decide +kernel
theorem dX3_mean_13 : decode cX3_mean 13 = .ok (.iload_n 1, 1) := by decide +kernel
theorem dX3_mean_14 : decode cX3_mean 14 = .ok (.invokevirtual 82, 3) := by decide +kernel
theorem dX3_mean_17 : decode cX3_mean 17 = .ok (.ifCond .ne 9, 3) := by decide +kernel
theorem dX3_mean_20 : decode cX3_mean 20 = .ok (.aload_n 0, 1) := by decide +kernel
theorem dX3_mean_21 : decode cX3_mean 21 = .ok (.iconst 1, 1) := by decide +kernel
theorem dX3_mean_22 : decode cX3_mean 22 = .ok (.invokevirtual 63, 3) := by decide +kernel
theorem dX3_mean_25 : decode cX3_mean 25 = .ok (.ireturn, 1) := by decide +kernel
theorem dX3_mean_26 : decode cX3_mean 26 = .ok (.aload_n 0, 1) := by decide +kernel
theorem dX3_mean_27 : decode cX3_mean 27 = .ok (.getfield 14, 3) := by decide +kernel
theorem dX3_mean_30 : decode cX3_mean 30 = .ok (.getfield 85, 3) := by decide +kernel
theorem dX3_mean_33 : decode cX3_mean 33 = .ok (.iload_n 1, 1) := by decide +kernel
theorem dX3_mean_34 : decode cX3_mean 34 = .ok (.iaload, 1) := by decide +kernel
theorem dX3_mean_35 : decode cX3_mean 35 = .ok (.istore_n 2, 1) := by decide +kernel
theorem dX3_mean_36 : decode cX3_mean 36 = .ok (.iload_n 2, 1) := by decide +kernel
theorem dX3_mean_37 : decode cX3_mean 37 = .ok (.ifCond .gt 9, 3) := by decide +kernel
theorem dX3_mean_40 : decode cX3_mean 40 = .ok (.aload_n 0, 1) := by decide +kernel
theorem dX3_mean_41 : decode cX3_mean 41 = .ok (.iconst 4, 1) := by decide +kernel
theorem dX3_mean_42 : decode cX3_mean 42 = .ok (.invokevirtual 63, 3) := by decide +kernel
theorem dX3_mean_45 : decode cX3_mean 45 = .ok (.ireturn, 1) := by decide +kernel
theorem dX3_mean_46 : decode cX3_mean 46 = .ok (.aload_n 0, 1) := by decide +kernel
theorem dX3_mean_47 : decode cX3_mean 47 = .ok (.aload_n 0, 1) := by decide +kernel
theorem dX3_mean_48 : decode cX3_mean 48 = .ok (.getfield 14, 3) := by decide +kernel
theorem dX3_mean_51 : decode cX3_mean 51 = .ok (.iload_n 1, 1) := by decide +kernel
theorem dX3_mean_52 : decode cX3_mean 52 = .ok (.invokevirtual 98, 3) := by decide +kernel
theorem dX3_mean_55 : decode cX3_mean 55 = .ok (.iload_n 2, 1) := by decide +kernel
theorem dX3_mean_56 : decode cX3_mean 56 = .ok (.i2l, 1) := by decide +kernel
theorem dX3_mean_57 : decode cX3_mean 57 = .ok (.ldiv, 1) := by decide +kernel
theorem dX3_mean_58 : decode cX3_mean 58 = .ok (.l2i, 1) := by decide +kernel
theorem dX3_mean_59 : decode cX3_mean 59 = .ok (.iconst 1, 1) := by decide +kernel
theorem dX3_mean_60 : decode cX3_mean 60 = .ok (.invokevirtual 79, 3) := by decide +kernel
theorem dX3_mean_63 : decode cX3_mean 63 = .ok (.ireturn, 1) := by decide +kernel
theorem dX3_text_0 : decode cX3_text 0 = .ok (.iload_n 1, 1) := by decide +kernel
theorem dX3_text_1 : decode cX3_text 1 = .ok (.invokestatic 102, 3) := by decide +kernel
theorem dX3_text_4 : decode cX3_text 4 = .ok (.ifCond .eq 9, 3) := by decide +kernel
theorem dX3_text_7 : decode cX3_text 7 = .ok (.iload_n 2, 1) := by decide +kernel
theorem dX3_text_8 : decode cX3_text 8 = .ok (.bipush 60, 2) := by decide +kernel
theorem dX3_text_10 : decode cX3_text 10 = .ok (.if_icmp .le 5, 3) := by decide +kernel
theorem dX3_text_13 : decode cX3_text 13 = .ok (.iconst (-1), 1) := by decide +kernel
theorem dX3_text_14 : decode cX3_text 14 = .ok (.ireturn, 1) := by decide +kernel
theorem dX3_text_15 : decode cX3_text 15 = .ok (.iload_n 2, 1) := by decide +kernel
theorem dX3_text_16 : decode cX3_text 16 = .ok (.ifCond .ge 9, 3) := by decide +kernel
theorem dX3_text_19 : decode cX3_text 19 = .ok (.aload_n 0, 1) := by decide +kernel
theorem dX3_text_20 : decode cX3_text 20 = .ok (.iconst 5, 1) := by decide +kernel
theorem dX3_text_21 : decode cX3_text 21 = .ok (.invokevirtual 63, 3) := by decide +kernel
theorem dX3_text_24 : decode cX3_text 24 = .ok (.ireturn, 1) := by decide +kernel
theorem dX3_text_25 : decode cX3_text 25 = .ok (.aload_n 0, 1) := by decide +kernel
theorem dX3_text_26 : decode cX3_text 26 = .ok (.getfield 18, 3) := by decide +kernel
theorem dX3_text_29 : decode cX3_text 29 = .ok (.iload_n 1, 1) := by decide +kernel
theorem dX3_text_30 : decode cX3_text 30 = .ok (.iload_n 2, 1) := by decide +kernel
theorem dX3_text_31 : decode cX3_text 31 = .ok (.invokevirtual 67, 3) := by decide +kernel
theorem dX3_text_34 : decode cX3_text 34 = .ok (.iload_n 2, 1) := by decide +kernel
theorem dX3_text_35 : decode cX3_text 35 = .ok (.ireturn, 1) := by decide +kernel
theorem dX3_put_0 : decode cX3_put 0 = .ok (.iload_n 1, 1) := by decide +kernel
theorem dX3_put_1 : decode cX3_put 1 = .ok (.invokestatic 102, 3) := by decide +kernel
theorem dX3_put_4 : decode cX3_put 4 = .ok (.ifCond .ne 5, 3) := by decide +kernel
theorem dX3_put_7 : decode cX3_put 7 = .ok (.iconst (-1), 1) := by decide +kernel
theorem dX3_put_8 : decode cX3_put 8 = .ok (.ireturn, 1) := by decide +kernel
theorem dX3_put_9 : decode cX3_put 9 = .ok (.aload_n 0, 1) := by decide +kernel
theorem dX3_put_10 : decode cX3_put 10 = .ok (.getfield 18, 3) := by decide +kernel
theorem dX3_put_13 : decode cX3_put 13 = .ok (.iload_n 1, 1) := by decide +kernel
theorem dX3_put_14 : decode cX3_put 14 = .ok (.invokevirtual 82, 3) := by decide +kernel
theorem dX3_put_17 : decode cX3_put 17 = .ok (.ifCond .ne 9, 3) := by decide +kernel
theorem dX3_put_20 : decode cX3_put 20 = .ok (.aload_n 0, 1) := by decide +kernel
theorem dX3_put_21 : decode cX3_put 21 = .ok (.iconst 1, 1) := by decide +kernel
theorem dX3_put_22 : decode cX3_put 22 = .ok (.invokevirtual 63, 3) := by decide +kernel
theorem dX3_put_25 : decode cX3_put 25 = .ok (.ireturn, 1) := by decide +kernel
theorem dX3_put_26 : decode cX3_put 26 = .ok (.aload_n 0, 1) := by decide +kernel
theorem dX3_put_27 : decode cX3_put 27 = .ok (.getfield 18, 3) := by decide +kernel
theorem dX3_put_30 : decode cX3_put 30 = .ok (.iload_n 1, 1) := by decide +kernel
theorem dX3_put_31 : decode cX3_put 31 = .ok (.iload_n 2, 1) := by decide +kernel
theorem dX3_put_32 : decode cX3_put 32 = .ok (.iconst 1, 1) := by decide +kernel
theorem dX3_put_33 : decode cX3_put 33 = .ok (.invokevirtual 88, 3) := by decide +kernel
theorem dX3_put_36 : decode cX3_put 36 = .ok (.ifCond .ne 9, 3) := by decide +kernel
theorem dX3_put_39 : decode cX3_put 39 = .ok (.aload_n 0, 1) := by decide +kernel
theorem dX3_put_40 : decode cX3_put 40 = .ok (.iconst 2, 1) := by decide +kernel
theorem dX3_put_41 : decode cX3_put 41 = .ok (.invokevirtual 63, 3) := by decide +kernel
theorem dX3_put_44 : decode cX3_put 44 = .ok (.ireturn, 1) := by decide +kernel
theorem dX3_put_45 : decode cX3_put 45 = .ok (.aload_n 0, 1) := by decide +kernel
theorem dX3_put_46 : decode cX3_put 46 = .ok (.getfield 18, 3) := by decide +kernel
theorem dX3_put_49 : decode cX3_put 49 = .ok (.getfield 75, 3) := by decide +kernel
theorem dX3_put_52 : decode cX3_put 52 = .ok (.iload_n 1, 1) := by decide +kernel
theorem dX3_put_53 : decode cX3_put 53 = .ok (.aaload, 1) := by decide +kernel
theorem dX3_put_54 : decode cX3_put 54 = .ok (.iload_n 2, 1) := by decide +kernel
theorem dX3_put_55 : decode cX3_put 55 = .ok (.iaload, 1) := by decide +kernel
theorem dX3_put_56 : decode cX3_put 56 = .ok (.istore 4, 2) := by decide +kernel
theorem dX3_put_58 : decode cX3_put 58 = .ok (.aload_n 0, 1) := by decide +kernel
theorem dX3_put_59 : decode cX3_put 59 = .ok (.getfield 18, 3) := by decide +kernel
theorem dX3_put_62 : decode cX3_put 62 = .ok (.getfield 75, 3) := by decide +kernel
theorem dX3_put_65 : decode cX3_put 65 = .ok (.iload_n 1, 1) := by decide +kernel
theorem dX3_put_66 : decode cX3_put 66 = .ok (.aaload, 1) := by decide +kernel
theorem dX3_put_67 : decode cX3_put 67 = .ok (.iload_n 2, 1) := by decide +kernel
theorem dX3_put_68 : decode cX3_put 68 = .ok (.iload_n 3, 1) := by decide +kernel
theorem dX3_put_69 : decode cX3_put 69 = .ok (.i2b, 1) := by decide +kernel
theorem dX3_put_70 : decode cX3_put 70 = .ok (.iastore, 1) := by decide +kernel
theorem dX3_put_71 : decode cX3_put 71 = .ok (.iload 4, 2) := by decide +kernel
theorem dX3_put_73 : decode cX3_put 73 = .ok (.sipush 1000, 3) := by decide +kernel
theorem dX3_put_76 : decode cX3_put 76 = .ok (.iadd, 1) := by decide +kernel
theorem dX3_put_77 : decode cX3_put 77 = .ok (.ireturn, 1) := by decide +kernel
theorem dX3_fault_0 : decode cX3_fault 0 = .ok (.iload_n 1, 1) := by decide +kernel
theorem dX3_fault_1 : decode cX3_fault 1 = .ok (.invokestatic 102, 3) := by decide +kernel
theorem dX3_fault_4 : decode cX3_fault 4 = .ok (.ifCond .ne 5, 3) := by decide +kernel
theorem dX3_fault_7 : decode cX3_fault 7 = .ok (.iconst (-1), 1) := by decide +kernel
theorem dX3_fault_8 : decode cX3_fault 8 = .ok (.ireturn, 1) := by decide +kernel
theorem dX3_fault_9 : decode cX3_fault 9 = .ok (.aload_n 0, 1) := by decide +kernel
theorem dX3_fault_10 : decode cX3_fault 10 = .ok (.getfield 18, 3) := by decide +kernel
theorem dX3_fault_13 : decode cX3_fault 13 = .ok (.iload_n 1, 1) := by decide +kernel
theorem dX3_fault_14 : decode cX3_fault 14 = .ok (.invokevirtual 82, 3) := by decide +kernel
theorem dX3_fault_17 : decode cX3_fault 17 = .ok (.ifCond .ne 9, 3) := by decide +kernel
theorem dX3_fault_20 : decode cX3_fault 20 = .ok (.aload_n 0, 1) := by decide +kernel
theorem dX3_fault_21 : decode cX3_fault 21 = .ok (.iconst 1, 1) := by decide +kernel
theorem dX3_fault_22 : decode cX3_fault 22 = .ok (.invokevirtual 63, 3) := by decide +kernel
theorem dX3_fault_25 : decode cX3_fault 25 = .ok (.ireturn, 1) := by decide +kernel
theorem dX3_fault_26 : decode cX3_fault 26 = .ok (.aload_n 0, 1) := by decide +kernel
theorem dX3_fault_27 : decode cX3_fault 27 = .ok (.getfield 31, 3) := by decide +kernel
theorem dX3_fault_30 : decode cX3_fault 30 = .ok (.aload_n 0, 1) := by decide +kernel
theorem dX3_fault_31 : decode cX3_fault 31 = .ok (.getfield 18, 3) := by decide +kernel
theorem dX3_fault_34 : decode cX3_fault 34 = .ok (.getfield 75, 3) := by decide +kernel
theorem dX3_fault_37 : decode cX3_fault 37 = .ok (.iload_n 1, 1) := by decide +kernel
theorem dX3_fault_38 : decode cX3_fault 38 = .ok (.aaload, 1) := by decide +kernel
theorem dX3_fault_39 : decode cX3_fault 39 = .ok (.aload_n 0, 1) := by decide +kernel
theorem dX3_fault_40 : decode cX3_fault 40 = .ok (.getfield 18, 3) := by decide +kernel
theorem dX3_fault_43 : decode cX3_fault 43 = .ok (.getfield 85, 3) := by decide +kernel
theorem dX3_fault_46 : decode cX3_fault 46 = .ok (.iload_n 1, 1) := by decide +kernel
theorem dX3_fault_47 : decode cX3_fault 47 = .ok (.iaload, 1) := by decide +kernel
theorem dX3_fault_48 : decode cX3_fault 48 = .ok (.invokevirtual 105, 3) := by decide +kernel
theorem dX3_fault_51 : decode cX3_fault 51 = .ok (.ireturn, 1) := by decide +kernel
theorem dX3_house_0 : decode cX3_house 0 = .ok (.iload_n 1, 1) := by decide +kernel
theorem dX3_house_1 : decode cX3_house 1 = .ok (.invokestatic 102, 3) := by decide +kernel
theorem dX3_house_4 : decode cX3_house 4 = .ok (.ifCond .ne 5, 3) := by decide +kernel
theorem dX3_house_7 : decode cX3_house 7 = .ok (.iconst (-1), 1) := by decide +kernel
theorem dX3_house_8 : decode cX3_house 8 = .ok (.ireturn, 1) := by decide +kernel
theorem dX3_house_9 : decode cX3_house 9 = .ok (.aload_n 0, 1) := by decide +kernel
theorem dX3_house_10 : decode cX3_house 10 = .ok (.getfield 18, 3) := by decide +kernel
theorem dX3_house_13 : decode cX3_house 13 = .ok (.iload_n 1, 1) := by decide +kernel
theorem dX3_house_14 : decode cX3_house 14 = .ok (.invokevirtual 82, 3) := by decide +kernel
theorem dX3_house_17 : decode cX3_house 17 = .ok (.ifCond .ne 9, 3) := by decide +kernel
theorem dX3_house_20 : decode cX3_house 20 = .ok (.aload_n 0, 1) := by decide +kernel
theorem dX3_house_21 : decode cX3_house 21 = .ok (.iconst 1, 1) := by decide +kernel
theorem dX3_house_22 : decode cX3_house 22 = .ok (.invokevirtual 63, 3) := by decide +kernel
theorem dX3_house_25 : decode cX3_house 25 = .ok (.ireturn, 1) := by decide +kernel
theorem dX3_house_26 : decode cX3_house 26 = .ok (.aload_n 0, 1) := by decide +kernel
theorem dX3_house_27 : decode cX3_house 27 = .ok (.getfield 31, 3) := by decide +kernel
theorem dX3_house_30 : decode cX3_house 30 = .ok (.aload_n 0, 1) := by decide +kernel
theorem dX3_house_31 : decode cX3_house 31 = .ok (.getfield 18, 3) := by decide +kernel
theorem dX3_house_34 : decode cX3_house 34 = .ok (.getfield 75, 3) := by decide +kernel
theorem dX3_house_37 : decode cX3_house 37 = .ok (.iload_n 1, 1) := by decide +kernel
theorem dX3_house_38 : decode cX3_house 38 = .ok (.aaload, 1) := by decide +kernel
theorem dX3_house_39 : decode cX3_house 39 = .ok (.aload_n 0, 1) := by decide +kernel
theorem dX3_house_40 : decode cX3_house 40 = .ok (.getfield 18, 3) := by decide +kernel
theorem dX3_house_43 : decode cX3_house 43 = .ok (.getfield 85, 3) := by decide +kernel
theorem dX3_house_46 : decode cX3_house 46 = .ok (.iload_n 1, 1) := by decide +kernel
theorem dX3_house_47 : decode cX3_house 47 = .ok (.iaload, 1) := by decide +kernel
theorem dX3_house_48 : decode cX3_house 48 = .ok (.invokevirtual 105, 3) := by decide +kernel
theorem dX3_house_51 : decode cX3_house 51 = .ok (.bipush (-9), 2) := by decide +kernel
theorem dX3_house_53 : decode cX3_house 53 = .ok (.if_icmp .eq 6, 3) := by decide +kernel
theorem dX3_house_56 : decode cX3_house 56 = .ok (.bipush (-4), 2) := by decide +kernel
theorem dX3_house_58 : decode cX3_house 58 = .ok (.ireturn, 1) := by decide +kernel
theorem dX3_house_59 : decode cX3_house 59 = .ok (.aload_n 0, 1) := by decide +kernel
theorem dX3_house_60 : decode cX3_house 60 = .ok (.getfield 24, 3) := by decide +kernel
theorem dX3_house_63 : decode cX3_house 63 = .ok (.aload_n 0, 1) := by decide +kernel
theorem dX3_house_64 : decode cX3_house 64 = .ok (.getfield 31, 3) := by decide +kernel
theorem dX3_house_67 : decode cX3_house 67 = .ok (.invokevirtual 109, 3) := by decide +kernel
theorem dX3_house_70 : decode cX3_house 70 = .ok (.aload_n 0, 1) := by decide +kernel
theorem dX3_house_71 : decode cX3_house 71 = .ok (.getfield 24, 3) := by decide +kernel
theorem dX3_house_74 : decode cX3_house 74 = .ok (.getfield 113, 3) := by decide +kernel
theorem dX3_house_77 : decode cX3_house 77 = .ok (.getfield 116, 3) := by decide +kernel
theorem dX3_house_80 : decode cX3_house 80 = .ok (.ireturn, 1) := by decide +kernel
theorem dX3_one_0 : decode cX3_one 0 = .ok (.aload_n 0, 1) := by decide +kernel
theorem dX3_one_1 : decode cX3_one 1 = .ok (.iload_n 1, 1) := by decide +kernel
theorem dX3_one_2 : decode cX3_one 2 = .ok (.invokevirtual 119, 3) := by decide +kernel
theorem dX3_one_5 : decode cX3_one 5 = .ok (.ifCond .eq 13, 3) := by decide +kernel
theorem dX3_one_8 : decode cX3_one 8 = .ok (.iload_n 2, 1) := by decide +kernel
theorem dX3_one_9 : decode cX3_one 9 = .ok (.ifCond .lt 9, 3) := by decide +kernel
theorem dX3_one_12 : decode cX3_one 12 = .ok (.iload_n 2, 1) := by decide +kernel
theorem dX3_one_13 : decode cX3_one 13 = .ok (.bipush 6, 2) := by decide +kernel
theorem dX3_one_15 : decode cX3_one 15 = .ok (.if_icmp .le 5, 3) := by decide +kernel
theorem dX3_one_18 : decode cX3_one 18 = .ok (.iconst (-1), 1) := by decide +kernel
theorem dX3_one_19 : decode cX3_one 19 = .ok (.ireturn, 1) := by decide +kernel
theorem dX3_one_20 : decode cX3_one 20 = .ok (.aload_n 0, 1) := by decide +kernel
theorem dX3_one_21 : decode cX3_one 21 = .ok (.aload_n 0, 1) := by decide +kernel
theorem dX3_one_22 : decode cX3_one 22 = .ok (.iload_n 1, 1) := by decide +kernel
theorem dX3_one_23 : decode cX3_one 23 = .ok (.iload_n 2, 1) := by decide +kernel
theorem dX3_one_24 : decode cX3_one 24 = .ok (.invokevirtual 122, 3) := by decide +kernel
theorem dX3_one_27 : decode cX3_one 27 = .ok (.iconst 1, 1) := by decide +kernel
theorem dX3_one_28 : decode cX3_one 28 = .ok (.invokevirtual 79, 3) := by decide +kernel
theorem dX3_one_31 : decode cX3_one 31 = .ok (.ireturn, 1) := by decide +kernel
theorem dX3_mark_0 : decode cX3_mark 0 = .ok (.aload_n 0, 1) := by decide +kernel
theorem dX3_mark_1 : decode cX3_mark 1 = .ok (.iload_n 1, 1) := by decide +kernel
theorem dX3_mark_2 : decode cX3_mark 2 = .ok (.invokevirtual 119, 3) := by decide +kernel
theorem dX3_mark_5 : decode cX3_mark 5 = .ok (.ifCond .eq 13, 3) := by decide +kernel
theorem dX3_mark_8 : decode cX3_mark 8 = .ok (.iload_n 2, 1) := by decide +kernel
theorem dX3_mark_9 : decode cX3_mark 9 = .ok (.ifCond .le 9, 3) := by decide +kernel
theorem dX3_mark_12 : decode cX3_mark 12 = .ok (.iload_n 2, 1) := by decide +kernel
theorem dX3_mark_13 : decode cX3_mark 13 = .ok (.bipush 6, 2) := by decide +kernel
theorem dX3_mark_15 : decode cX3_mark 15 = .ok (.if_icmp .lt 5, 3) := by decide +kernel
theorem dX3_mark_18 : decode cX3_mark 18 = .ok (.iconst (-1), 1) := by decide +kernel
theorem dX3_mark_19 : decode cX3_mark 19 = .ok (.ireturn, 1) := by decide +kernel
theorem dX3_mark_20 : decode cX3_mark 20 = .ok (.aload_n 0, 1) := by decide +kernel
theorem dX3_mark_21 : decode cX3_mark 21 = .ok (.getfield 24, 3) := by decide +kernel
theorem dX3_mark_24 : decode cX3_mark 24 = .ok (.getfield 113, 3) := by decide +kernel
theorem dX3_mark_27 : decode cX3_mark 27 = .ok (.getfield 125, 3) := by decide +kernel
theorem dX3_mark_30 : decode cX3_mark 30 = .ok (.iload_n 1, 1) := by decide +kernel
theorem dX3_mark_31 : decode cX3_mark 31 = .ok (.iaload, 1) := by decide +kernel
theorem dX3_mark_32 : decode cX3_mark 32 = .ok (.iload_n 2, 1) := by decide +kernel
theorem dX3_mark_33 : decode cX3_mark 33 = .ok (.invokestatic 128, 3) := by decide +kernel
theorem dX3_mark_36 : decode cX3_mark 36 = .ok (.ifCond .ne 9, 3) := by decide +kernel
theorem dX3_mark_39 : decode cX3_mark 39 = .ok (.aload_n 0, 1) := by decide +kernel
theorem dX3_mark_40 : decode cX3_mark 40 = .ok (.iconst 3, 1) := by decide +kernel
theorem dX3_mark_41 : decode cX3_mark 41 = .ok (.invokevirtual 63, 3) := by decide +kernel
theorem dX3_mark_44 : decode cX3_mark 44 = .ok (.ireturn, 1) := by decide +kernel
theorem dX3_mark_45 : decode cX3_mark 45 = .ok (.aload_n 0, 1) := by decide +kernel
theorem dX3_mark_46 : decode cX3_mark 46 = .ok (.getfield 24, 3) := by decide +kernel
theorem dX3_mark_49 : decode cX3_mark 49 = .ok (.getfield 113, 3) := by decide +kernel
theorem dX3_mark_52 : decode cX3_mark 52 = .ok (.iload_n 1, 1) := by decide +kernel
theorem dX3_mark_53 : decode cX3_mark 53 = .ok (.aload_n 0, 1) := by decide +kernel
theorem dX3_mark_54 : decode cX3_mark 54 = .ok (.getfield 24, 3) := by decide +kernel
theorem dX3_mark_57 : decode cX3_mark 57 = .ok (.getfield 113, 3) := by decide +kernel
theorem dX3_mark_60 : decode cX3_mark 60 = .ok (.getfield 125, 3) := by decide +kernel
theorem dX3_mark_63 : decode cX3_mark 63 = .ok (.iload_n 1, 1) := by decide +kernel
theorem dX3_mark_64 : decode cX3_mark 64 = .ok (.iaload, 1) := by decide +kernel
theorem dX3_mark_65 : decode cX3_mark 65 = .ok (.invokevirtual 132, 3) := by decide +kernel
theorem dX3_mark_68 : decode cX3_mark 68 = .ok (.istore_n 3, 1) := by decide +kernel
theorem dX3_mark_69 : decode cX3_mark 69 = .ok (.iload_n 3, 1) := by decide +kernel
theorem dX3_mark_70 : decode cX3_mark 70 = .ok (.aload_n 0, 1) := by decide +kernel
theorem dX3_mark_71 : decode cX3_mark 71 = .ok (.getfield 24, 3) := by decide +kernel
theorem dX3_mark_74 : decode cX3_mark 74 = .ok (.getfield 113, 3) := by decide +kernel
theorem dX3_mark_77 : decode cX3_mark 77 = .ok (.iload_n 1, 1) := by decide +kernel
theorem dX3_mark_78 : decode cX3_mark 78 = .ok (.iload_n 2, 1) := by decide +kernel
theorem dX3_mark_79 : decode cX3_mark 79 = .ok (.invokestatic 135, 3) := by decide +kernel
theorem dX3_mark_82 : decode cX3_mark 82 = .ok (.invokevirtual 132, 3) := by decide +kernel
theorem dX3_mark_85 : decode cX3_mark 85 = .ok (.isub, 1) := by decide +kernel
theorem dX3_mark_86 : decode cX3_mark 86 = .ok (.invokestatic 138, 3) := by decide +kernel
theorem dX3_mark_89 : decode cX3_mark 89 = .ok (.ireturn, 1) := by decide +kernel
theorem dX3_regard_0 : decode cX3_regard 0 = .ok (.aload_n 0, 1) := by decide +kernel
theorem dX3_regard_1 : decode cX3_regard 1 = .ok (.iload_n 1, 1) := by decide +kernel
theorem dX3_regard_2 : decode cX3_regard 2 = .ok (.invokevirtual 119, 3) := by decide +kernel
theorem dX3_regard_5 : decode cX3_regard 5 = .ok (.ifCond .eq 22, 3) := by decide +kernel
theorem dX3_regard_8 : decode cX3_regard 8 = .ok (.iload_n 2, 1) := by decide +kernel
theorem dX3_regard_9 : decode cX3_regard 9 = .ok (.ifCond .lt 18, 3) := by decide +kernel
theorem dX3_regard_12 : decode cX3_regard 12 = .ok (.iload_n 2, 1) := by decide +kernel
theorem dX3_regard_13 : decode cX3_regard 13 = .ok (.iconst 3, 1) := by decide +kernel
theorem dX3_regard_14 : decode cX3_regard 14 = .ok (.if_icmp .gt 13, 3) := by decide +kernel
theorem dX3_regard_17 : decode cX3_regard 17 = .ok (.iload_n 3, 1) := by decide +kernel
theorem dX3_regard_18 : decode cX3_regard 18 = .ok (.ifCond .lt 9, 3) := by decide +kernel
theorem dX3_regard_21 : decode cX3_regard 21 = .ok (.iload_n 3, 1) := by decide +kernel
theorem dX3_regard_22 : decode cX3_regard 22 = .ok (.bipush 99, 2) := by decide +kernel
theorem dX3_regard_24 : decode cX3_regard 24 = .ok (.if_icmp .le 5, 3) := by decide +kernel
theorem dX3_regard_27 : decode cX3_regard 27 = .ok (.iconst (-1), 1) := by decide +kernel
theorem dX3_regard_28 : decode cX3_regard 28 = .ok (.ireturn, 1) := by decide +kernel
theorem dX3_regard_29 : decode cX3_regard 29 = .ok (.aload_n 0, 1) := by decide +kernel
theorem dX3_regard_30 : decode cX3_regard 30 = .ok (.getfield 24, 3) := by decide +kernel
theorem dX3_regard_33 : decode cX3_regard 33 = .ok (.getfield 113, 3) := by decide +kernel
theorem dX3_regard_36 : decode cX3_regard 36 = .ok (.getfield 125, 3) := by decide +kernel
theorem dX3_regard_39 : decode cX3_regard 39 = .ok (.iload_n 1, 1) := by decide +kernel
theorem dX3_regard_40 : decode cX3_regard 40 = .ok (.iaload, 1) := by decide +kernel
theorem dX3_regard_41 : decode cX3_regard 41 = .ok (.aload_n 0, 1) := by decide +kernel
theorem dX3_regard_42 : decode cX3_regard 42 = .ok (.getfield 24, 3) := by decide +kernel
theorem dX3_regard_45 : decode cX3_regard 45 = .ok (.getfield 113, 3) := by decide +kernel
theorem dX3_regard_48 : decode cX3_regard 48 = .ok (.getfield 143, 3) := by decide +kernel
theorem dX3_regard_51 : decode cX3_regard 51 = .ok (.iload_n 1, 1) := by decide +kernel
theorem dX3_regard_52 : decode cX3_regard 52 = .ok (.iaload, 1) := by decide +kernel
theorem dX3_regard_53 : decode cX3_regard 53 = .ok (.iload_n 2, 1) := by decide +kernel
theorem dX3_regard_54 : decode cX3_regard 54 = .ok (.iload_n 3, 1) := by decide +kernel
theorem dX3_regard_55 : decode cX3_regard 55 = .ok (.invokestatic 146, 3) := by decide +kernel
theorem dX3_regard_58 : decode cX3_regard 58 = .ok (.ireturn, 1) := by decide +kernel
theorem dX3_quarter_0 : decode cX3_quarter 0 = .ok (.aload_n 0, 1) := by decide +kernel
theorem dX3_quarter_1 : decode cX3_quarter 1 = .ok (.invokevirtual 150, 3) := by decide +kernel
theorem dX3_quarter_4 : decode cX3_quarter 4 = .ok (.ifCond .ne 15, 3) := by decide +kernel
theorem dX3_quarter_7 : decode cX3_quarter 7 = .ok (.aload_n 0, 1) := by decide +kernel
theorem dX3_quarter_8 : decode cX3_quarter 8 = .ok (.getfield 24, 3) := by decide +kernel
theorem dX3_quarter_11 : decode cX3_quarter 11 = .ok (.getfield 154, 3) := by decide +kernel
theorem dX3_quarter_14 : decode cX3_quarter 14 = .ok (.bipush 99, 2) := by decide +kernel
theorem dX3_quarter_16 : decode cX3_quarter 16 = .ok (.if_icmp .lt 6, 3) := by decide +kernel
theorem dX3_quarter_19 : decode cX3_quarter 19 = .ok (.bipush (-4), 2) := by decide +kernel
theorem dX3_quarter_21 : decode cX3_quarter 21 = .ok (.ireturn, 1) := by decide +kernel
theorem dX3_quarter_22 : decode cX3_quarter 22 = .ok (.aload_n 0, 1) := by decide +kernel
theorem dX3_quarter_23 : decode cX3_quarter 23 = .ok (.getfield 24, 3) := by decide +kernel
theorem dX3_quarter_26 : decode cX3_quarter 26 = .ok (.iconst 1, 1) := by decide +kernel
theorem dX3_quarter_27 : decode cX3_quarter 27 = .ok (.invokevirtual 157, 3) := by decide +kernel
theorem dX3_quarter_30 : decode cX3_quarter 30 = .ok (.ifCond .eq 6, 3) := by decide +kernel
theorem dX3_quarter_33 : decode cX3_quarter 33 = .ok (.bipush (-2), 2) := by decide +kernel
theorem dX3_quarter_35 : decode cX3_quarter 35 = .ok (.ireturn, 1) := by decide +kernel
theorem dX3_quarter_36 : decode cX3_quarter 36 = .ok (.aload_n 0, 1) := by decide +kernel
theorem dX3_quarter_37 : decode cX3_quarter 37 = .ok (.getfield 24, 3) := by decide +kernel
theorem dX3_quarter_40 : decode cX3_quarter 40 = .ok (.iconst 0, 1) := by decide +kernel
theorem dX3_quarter_41 : decode cX3_quarter 41 = .ok (.iconst 0, 1) := by decide +kernel
theorem dX3_quarter_42 : decode cX3_quarter 42 = .ok (.iconst 0, 1) := by decide +kernel
theorem dX3_quarter_43 : decode cX3_quarter 43 = .ok (.iconst 0, 1) := by decide +kernel
theorem dX3_quarter_44 : decode cX3_quarter 44 = .ok (.invokestatic 160, 3) := by decide +kernel
theorem dX3_quarter_47 : decode cX3_quarter 47 = .ok (.invokevirtual 163, 3) := by decide +kernel
theorem dX3_quarter_50 : decode cX3_quarter 50 = .ok (.aload_n 0, 1) := by decide +kernel
theorem dX3_quarter_51 : decode cX3_quarter 51 = .ok (.getfield 24, 3) := by decide +kernel
theorem dX3_quarter_54 : decode cX3_quarter 54 = .ok (.getfield 113, 3) := by decide +kernel
theorem dX3_quarter_57 : decode cX3_quarter 57 = .ok (.getfield 167, 3) := by decide +kernel
theorem dX3_quarter_60 : decode cX3_quarter 60 = .ok (.ireturn, 1) := by decide +kernel
theorem dX3_soot_0 : decode cX3_soot 0 = .ok (.aload_n 0, 1) := by decide +kernel
theorem dX3_soot_1 : decode cX3_soot 1 = .ok (.iload_n 1, 1) := by decide +kernel
theorem dX3_soot_2 : decode cX3_soot 2 = .ok (.invokevirtual 119, 3) := by decide +kernel
theorem dX3_soot_5 : decode cX3_soot 5 = .ok (.ifCond .ne 5, 3) := by decide +kernel
theorem dX3_soot_8 : decode cX3_soot 8 = .ok (.iconst (-1), 1) := by decide +kernel
theorem dX3_soot_9 : decode cX3_soot 9 = .ok (.ireturn, 1) := by decide +kernel
theorem dX3_soot_10 : decode cX3_soot 10 = .ok (.aload_n 0, 1) := by decide +kernel
theorem dX3_soot_11 : decode cX3_soot 11 = .ok (.getfield 24, 3) := by decide +kernel
theorem dX3_soot_14 : decode cX3_soot 14 = .ok (.getfield 113, 3) := by decide +kernel
theorem dX3_soot_17 : decode cX3_soot 17 = .ok (.getfield 170, 3) := by decide +kernel
theorem dX3_soot_20 : decode cX3_soot 20 = .ok (.iload_n 1, 1) := by decide +kernel
theorem dX3_soot_21 : decode cX3_soot 21 = .ok (.iaload, 1) := by decide +kernel
theorem dX3_soot_22 : decode cX3_soot 22 = .ok (.iconst 3, 1) := by decide +kernel
theorem dX3_soot_23 : decode cX3_soot 23 = .ok (.if_icmp .lt 6, 3) := by decide +kernel
theorem dX3_soot_26 : decode cX3_soot 26 = .ok (.bipush (-4), 2) := by decide +kernel
theorem dX3_soot_28 : decode cX3_soot 28 = .ok (.ireturn, 1) := by decide +kernel
theorem dX3_soot_29 : decode cX3_soot 29 = .ok (.aload_n 0, 1) := by decide +kernel
theorem dX3_soot_30 : decode cX3_soot 30 = .ok (.getfield 24, 3) := by decide +kernel
theorem dX3_soot_33 : decode cX3_soot 33 = .ok (.iconst 1, 1) := by decide +kernel
theorem dX3_soot_34 : decode cX3_soot 34 = .ok (.invokevirtual 157, 3) := by decide +kernel
theorem dX3_soot_37 : decode cX3_soot 37 = .ok (.ifCond .eq 6, 3) := by decide +kernel
theorem dX3_soot_40 : decode cX3_soot 40 = .ok (.bipush (-2), 2) := by decide +kernel
theorem dX3_soot_42 : decode cX3_soot 42 = .ok (.ireturn, 1) := by decide +kernel
theorem dX3_soot_43 : decode cX3_soot 43 = .ok (.aload_n 0, 1) := by decide +kernel
theorem dX3_soot_44 : decode cX3_soot 44 = .ok (.getfield 24, 3) := by decide +kernel
theorem dX3_soot_47 : decode cX3_soot 47 = .ok (.iconst 1, 1) := by decide +kernel
theorem dX3_soot_48 : decode cX3_soot 48 = .ok (.iload_n 1, 1) := by decide +kernel
theorem dX3_soot_49 : decode cX3_soot 49 = .ok (.iconst 0, 1) := by decide +kernel
theorem dX3_soot_50 : decode cX3_soot 50 = .ok (.iconst 0, 1) := by decide +kernel
theorem dX3_soot_51 : decode cX3_soot 51 = .ok (.invokestatic 160, 3) := by decide +kernel
theorem dX3_soot_54 : decode cX3_soot 54 = .ok (.invokevirtual 163, 3) := by decide +kernel
theorem dX3_soot_57 : decode cX3_soot 57 = .ok (.aload_n 0, 1) := by decide +kernel
theorem dX3_soot_58 : decode cX3_soot 58 = .ok (.getfield 24, 3) := by decide +kernel
theorem dX3_soot_61 : decode cX3_soot 61 = .ok (.getfield 113, 3) := by decide +kernel
theorem dX3_soot_64 : decode cX3_soot 64 = .ok (.getfield 170, 3) := by decide +kernel
theorem dX3_soot_67 : decode cX3_soot 67 = .ok (.iload_n 1, 1) := by decide +kernel
theorem dX3_soot_68 : decode cX3_soot 68 = .ok (.iaload, 1) := by decide +kernel
theorem dX3_soot_69 : decode cX3_soot 69 = .ok (.ireturn, 1) := by decide +kernel
theorem dX3_wash_0 : decode cX3_wash 0 = .ok (.aload_n 0, 1) := by decide +kernel
theorem dX3_wash_1 : decode cX3_wash 1 = .ok (.iload_n 1, 1) := by decide +kernel
theorem dX3_wash_2 : decode cX3_wash 2 = .ok (.invokevirtual 119, 3) := by decide +kernel
theorem dX3_wash_5 : decode cX3_wash 5 = .ok (.ifCond .ne 5, 3) := by decide +kernel
theorem dX3_wash_8 : decode cX3_wash 8 = .ok (.iconst (-1), 1) := by decide +kernel
theorem dX3_wash_9 : decode cX3_wash 9 = .ok (.ireturn, 1) := by decide +kernel
theorem dX3_wash_10 : decode cX3_wash 10 = .ok (.aload_n 0, 1) := by decide +kernel
theorem dX3_wash_11 : decode cX3_wash 11 = .ok (.getfield 24, 3) := by decide +kernel
theorem dX3_wash_14 : decode cX3_wash 14 = .ok (.getfield 113, 3) := by decide +kernel
theorem dX3_wash_17 : decode cX3_wash 17 = .ok (.getfield 170, 3) := by decide +kernel
theorem dX3_wash_20 : decode cX3_wash 20 = .ok (.iload_n 1, 1) := by decide +kernel
theorem dX3_wash_21 : decode cX3_wash 21 = .ok (.iaload, 1) := by decide +kernel
theorem dX3_wash_22 : decode cX3_wash 22 = .ok (.istore_n 2, 1) := by decide +kernel
theorem dX3_wash_23 : decode cX3_wash 23 = .ok (.iload_n 2, 1) := by decide +kernel
theorem dX3_wash_24 : decode cX3_wash 24 = .ok (.ifCond .ne 6, 3) := by decide +kernel
theorem dX3_wash_27 : decode cX3_wash 27 = .ok (.bipush (-4), 2) := by decide +kernel
theorem dX3_wash_29 : decode cX3_wash 29 = .ok (.ireturn, 1) := by decide +kernel
theorem dX3_wash_30 : decode cX3_wash 30 = .ok (.aload_n 0, 1) := by decide +kernel
theorem dX3_wash_31 : decode cX3_wash 31 = .ok (.getfield 24, 3) := by decide +kernel
theorem dX3_wash_34 : decode cX3_wash 34 = .ok (.iconst 1, 1) := by decide +kernel
theorem dX3_wash_35 : decode cX3_wash 35 = .ok (.invokevirtual 157, 3) := by decide +kernel
theorem dX3_wash_38 : decode cX3_wash 38 = .ok (.ifCond .eq 6, 3) := by decide +kernel
theorem dX3_wash_41 : decode cX3_wash 41 = .ok (.bipush (-2), 2) := by decide +kernel
theorem dX3_wash_43 : decode cX3_wash 43 = .ok (.ireturn, 1) := by decide +kernel
theorem dX3_wash_44 : decode cX3_wash 44 = .ok (.aload_n 0, 1) := by decide +kernel
theorem dX3_wash_45 : decode cX3_wash 45 = .ok (.getfield 24, 3) := by decide +kernel
theorem dX3_wash_48 : decode cX3_wash 48 = .ok (.iconst 2, 1) := by decide +kernel
theorem dX3_wash_49 : decode cX3_wash 49 = .ok (.iload_n 1, 1) := by decide +kernel
theorem dX3_wash_50 : decode cX3_wash 50 = .ok (.iconst 0, 1) := by decide +kernel
theorem dX3_wash_51 : decode cX3_wash 51 = .ok (.iconst 0, 1) := by decide +kernel
theorem dX3_wash_52 : decode cX3_wash 52 = .ok (.invokestatic 160, 3) := by decide +kernel
theorem dX3_wash_55 : decode cX3_wash 55 = .ok (.invokevirtual 163, 3) := by decide +kernel
theorem dX3_wash_58 : decode cX3_wash 58 = .ok (.iload_n 2, 1) := by decide +kernel
theorem dX3_wash_59 : decode cX3_wash 59 = .ok (.ireturn, 1) := by decide +kernel
theorem dX3_gift_0 : decode cX3_gift 0 = .ok (.aload_n 0, 1) := by decide +kernel
theorem dX3_gift_1 : decode cX3_gift 1 = .ok (.iload_n 1, 1) := by decide +kernel
theorem dX3_gift_2 : decode cX3_gift 2 = .ok (.iload_n 2, 1) := by decide +kernel
theorem dX3_gift_3 : decode cX3_gift 3 = .ok (.invokevirtual 173, 3) := by decide +kernel
theorem dX3_gift_6 : decode cX3_gift 6 = .ok (.ifCond .eq 14, 3) := by decide +kernel
theorem dX3_gift_9 : decode cX3_gift 9 = .ok (.iload_n 3, 1) := by decide +kernel
theorem dX3_gift_10 : decode cX3_gift 10 = .ok (.iconst 1, 1) := by decide +kernel
theorem dX3_gift_11 : decode cX3_gift 11 = .ok (.if_icmp .lt 9, 3) := by decide +kernel
theorem dX3_gift_14 : decode cX3_gift 14 = .ok (.iload_n 3, 1) := by decide +kernel
theorem dX3_gift_15 : decode cX3_gift 15 = .ok (.bipush 99, 2) := by decide +kernel
theorem dX3_gift_17 : decode cX3_gift 17 = .ok (.if_icmp .le 5, 3) := by decide +kernel
theorem dX3_gift_20 : decode cX3_gift 20 = .ok (.iconst (-1), 1) := by decide +kernel
theorem dX3_gift_21 : decode cX3_gift 21 = .ok (.ireturn, 1) := by decide +kernel
theorem dX3_gift_22 : decode cX3_gift 22 = .ok (.aload_n 0, 1) := by decide +kernel
theorem dX3_gift_23 : decode cX3_gift 23 = .ok (.getfield 24, 3) := by decide +kernel
theorem dX3_gift_26 : decode cX3_gift 26 = .ok (.getfield 113, 3) := by decide +kernel
theorem dX3_gift_29 : decode cX3_gift 29 = .ok (.getfield 176, 3) := by decide +kernel
theorem dX3_gift_32 : decode cX3_gift 32 = .ok (.iload_n 1, 1) := by decide +kernel
theorem dX3_gift_33 : decode cX3_gift 33 = .ok (.iaload, 1) := by decide +kernel
theorem dX3_gift_34 : decode cX3_gift 34 = .ok (.iload_n 3, 1) := by decide +kernel
theorem dX3_gift_35 : decode cX3_gift 35 = .ok (.if_icmp .ge 6, 3) := by decide +kernel
theorem dX3_gift_38 : decode cX3_gift 38 = .ok (.bipush (-4), 2) := by decide +kernel
theorem dX3_gift_40 : decode cX3_gift 40 = .ok (.ireturn, 1) := by decide +kernel
theorem dX3_gift_41 : decode cX3_gift 41 = .ok (.aload_n 0, 1) := by decide +kernel
theorem dX3_gift_42 : decode cX3_gift 42 = .ok (.getfield 24, 3) := by decide +kernel
theorem dX3_gift_45 : decode cX3_gift 45 = .ok (.iconst 1, 1) := by decide +kernel
theorem dX3_gift_46 : decode cX3_gift 46 = .ok (.invokevirtual 157, 3) := by decide +kernel
theorem dX3_gift_49 : decode cX3_gift 49 = .ok (.ifCond .eq 6, 3) := by decide +kernel
theorem dX3_gift_52 : decode cX3_gift 52 = .ok (.bipush (-2), 2) := by decide +kernel
theorem dX3_gift_54 : decode cX3_gift 54 = .ok (.ireturn, 1) := by decide +kernel
theorem dX3_gift_55 : decode cX3_gift 55 = .ok (.aload_n 0, 1) := by decide +kernel
theorem dX3_gift_56 : decode cX3_gift 56 = .ok (.getfield 24, 3) := by decide +kernel
theorem dX3_gift_59 : decode cX3_gift 59 = .ok (.iconst 3, 1) := by decide +kernel
theorem dX3_gift_60 : decode cX3_gift 60 = .ok (.iload_n 1, 1) := by decide +kernel
theorem dX3_gift_61 : decode cX3_gift 61 = .ok (.iload_n 2, 1) := by decide +kernel
theorem dX3_gift_62 : decode cX3_gift 62 = .ok (.iload_n 3, 1) := by decide +kernel
theorem dX3_gift_63 : decode cX3_gift 63 = .ok (.invokestatic 160, 3) := by decide +kernel
theorem dX3_gift_66 : decode cX3_gift 66 = .ok (.invokevirtual 163, 3) := by decide +kernel
theorem dX3_gift_69 : decode cX3_gift 69 = .ok (.aload_n 0, 1) := by decide +kernel
theorem dX3_gift_70 : decode cX3_gift 70 = .ok (.getfield 24, 3) := by decide +kernel
theorem dX3_gift_73 : decode cX3_gift 73 = .ok (.getfield 113, 3) := by decide +kernel
theorem dX3_gift_76 : decode cX3_gift 76 = .ok (.getfield 176, 3) := by decide +kernel
theorem dX3_gift_79 : decode cX3_gift 79 = .ok (.iload_n 2, 1) := by decide +kernel
theorem dX3_gift_80 : decode cX3_gift 80 = .ok (.iaload, 1) := by decide +kernel
theorem dX3_gift_81 : decode cX3_gift 81 = .ok (.ireturn, 1) := by decide +kernel
theorem dX3_undo_0 : decode cX3_undo 0 = .ok (.iload_n 1, 1) := by decide +kernel
theorem dX3_undo_1 : decode cX3_undo 1 = .ok (.ifCond .lt 14, 3) := by decide +kernel
theorem dX3_undo_4 : decode cX3_undo 4 = .ok (.iload_n 1, 1) := by decide +kernel
theorem dX3_undo_5 : decode cX3_undo 5 = .ok (.aload_n 0, 1) := by decide +kernel
theorem dX3_undo_6 : decode cX3_undo 6 = .ok (.getfield 24, 3) := by decide +kernel
theorem dX3_undo_9 : decode cX3_undo 9 = .ok (.getfield 179, 3) := by decide +kernel
theorem dX3_undo_12 : decode cX3_undo 12 = .ok (.if_icmp .le 5, 3) := by decide +kernel
theorem dX3_undo_15 : decode cX3_undo 15 = .ok (.iconst (-1), 1) := by decide +kernel
theorem dX3_undo_16 : decode cX3_undo 16 = .ok (.ireturn, 1) := by decide +kernel
theorem dX3_undo_17 : decode cX3_undo 17 = .ok (.aload_n 0, 1) := by decide +kernel
theorem dX3_undo_18 : decode cX3_undo 18 = .ok (.getfield 24, 3) := by decide +kernel
theorem dX3_undo_21 : decode cX3_undo 21 = .ok (.getfield 179, 3) := by decide +kernel
theorem dX3_undo_24 : decode cX3_undo 24 = .ok (.iload_n 1, 1) := by decide +kernel
theorem dX3_undo_25 : decode cX3_undo 25 = .ok (.isub, 1) := by decide +kernel
theorem dX3_undo_26 : decode cX3_undo 26 = .ok (.istore_n 2, 1) := by decide +kernel
theorem dX3_undo_27 : decode cX3_undo 27 = .ok (.aload_n 0, 1) := by decide +kernel
theorem dX3_undo_28 : decode cX3_undo 28 = .ok (.getfield 24, 3) := by decide +kernel
theorem dX3_undo_31 : decode cX3_undo 31 = .ok (.iload_n 1, 1) := by decide +kernel
theorem dX3_undo_32 : decode cX3_undo 32 = .ok (.invokevirtual 182, 3) := by decide +kernel
theorem dX3_undo_35 : decode cX3_undo 35 = .ok (.iload_n 2, 1) := by decide +kernel
theorem dX3_undo_36 : decode cX3_undo 36 = .ok (.ireturn, 1) := by decide +kernel
theorem dX3_keep_0 : decode cX3_keep 0 = .ok (.iload_n 1, 1) := by decide +kernel
theorem dX3_keep_1 : decode cX3_keep 1 = .ok (.invokestatic 185, 3) := by decide +kernel
theorem dX3_keep_4 : decode cX3_keep 4 = .ok (.ifCond .ne 5, 3) := by decide +kernel
theorem dX3_keep_7 : decode cX3_keep 7 = .ok (.iconst (-1), 1) := by decide +kernel
theorem dX3_keep_8 : decode cX3_keep 8 = .ok (.ireturn, 1) := by decide +kernel
theorem dX3_keep_9 : decode cX3_keep 9 = .ok (.aload_n 0, 1) := by decide +kernel
theorem dX3_keep_10 : decode cX3_keep 10 = .ok (.invokevirtual 150, 3) := by decide +kernel
theorem dX3_keep_13 : decode cX3_keep 13 = .ok (.ifCond .eq 6, 3) := by decide +kernel
theorem dX3_keep_16 : decode cX3_keep 16 = .ok (.bipush (-4), 2) := by decide +kernel
theorem dX3_keep_18 : decode cX3_keep 18 = .ok (.ireturn, 1) := by decide +kernel
theorem dX3_keep_19 : decode cX3_keep 19 = .ok (.aload_n 0, 1) := by decide +kernel
theorem dX3_keep_20 : decode cX3_keep 20 = .ok (.getfield 24, 3) := by decide +kernel
theorem dX3_keep_23 : decode cX3_keep 23 = .ok (.iload_n 1, 1) := by decide +kernel
theorem dX3_keep_24 : decode cX3_keep 24 = .ok (.invokevirtual 188, 3) := by decide +kernel
theorem dX3_keep_27 : decode cX3_keep 27 = .ok (.aload_n 0, 1) := by decide +kernel
theorem dX3_keep_28 : decode cX3_keep 28 = .ok (.getfield 24, 3) := by decide +kernel
theorem dX3_keep_31 : decode cX3_keep 31 = .ok (.getfield 179, 3) := by decide +kernel
theorem dX3_keep_34 : decode cX3_keep 34 = .ok (.ireturn, 1) := by decide +kernel
theorem dX3_on_0 : decode cX3_on 0 = .ok (.iload_n 1, 1) := by decide +kernel
theorem dX3_on_1 : decode cX3_on 1 = .ok (.invokestatic 185, 3) := by decide +kernel
theorem dX3_on_4 : decode cX3_on 4 = .ok (.ifCond .ne 5, 3) := by decide +kernel
theorem dX3_on_7 : decode cX3_on 7 = .ok (.iconst (-1), 1) := by decide +kernel
theorem dX3_on_8 : decode cX3_on 8 = .ok (.ireturn, 1) := by decide +kernel
theorem dX3_on_9 : decode cX3_on 9 = .ok (.aload_n 0, 1) := by decide +kernel
theorem dX3_on_10 : decode cX3_on 10 = .ok (.getfield 24, 3) := by decide +kernel
theorem dX3_on_13 : decode cX3_on 13 = .ok (.getfield 191, 3) := by decide +kernel
theorem dX3_on_16 : decode cX3_on 16 = .ok (.iload_n 1, 1) := by decide +kernel
theorem dX3_on_17 : decode cX3_on 17 = .ok (.iaload, 1) := by decide +kernel
theorem dX3_on_18 : decode cX3_on 18 = .ok (.iconst (-1), 1) := by decide +kernel
theorem dX3_on_19 : decode cX3_on 19 = .ok (.if_icmp .ne 9, 3) := by decide +kernel
theorem dX3_on_22 : decode cX3_on 22 = .ok (.aload_n 0, 1) := by decide +kernel
theorem dX3_on_23 : decode cX3_on 23 = .ok (.iconst 1, 1) := by decide +kernel
theorem dX3_on_24 : decode cX3_on 24 = .ok (.invokevirtual 63, 3) := by decide +kernel
theorem dX3_on_27 : decode cX3_on 27 = .ok (.ireturn, 1) := by decide +kernel
theorem dX3_on_28 : decode cX3_on 28 = .ok (.aload_n 0, 1) := by decide +kernel
theorem dX3_on_29 : decode cX3_on 29 = .ok (.getfield 24, 3) := by decide +kernel
theorem dX3_on_32 : decode cX3_on 32 = .ok (.iload_n 1, 1) := by decide +kernel
theorem dX3_on_33 : decode cX3_on 33 = .ok (.invokevirtual 194, 3) := by decide +kernel
theorem dX3_on_36 : decode cX3_on 36 = .ok (.aload_n 0, 1) := by decide +kernel
theorem dX3_on_37 : decode cX3_on 37 = .ok (.getfield 24, 3) := by decide +kernel
theorem dX3_on_40 : decode cX3_on 40 = .ok (.getfield 179, 3) := by decide +kernel
theorem dX3_on_43 : decode cX3_on 43 = .ok (.ireturn, 1) := by decide +kernel
theorem dX3_box_0 : decode cX3_box 0 = .ok (.aload_n 0, 1) := by decide +kernel
theorem dX3_box_1 : decode cX3_box 1 = .ok (.invokevirtual 150, 3) := by decide +kernel
theorem dX3_box_4 : decode cX3_box 4 = .ok (.ifCond .eq 6, 3) := by decide +kernel
theorem dX3_box_7 : decode cX3_box 7 = .ok (.bipush (-4), 2) := by decide +kernel
theorem dX3_box_9 : decode cX3_box 9 = .ok (.ireturn, 1) := by decide +kernel
theorem dX3_box_10 : decode cX3_box 10 = .ok (.aload_n 0, 1) := by decide +kernel
theorem dX3_box_11 : decode cX3_box 11 = .ok (.getfield 24, 3) := by decide +kernel
theorem dX3_box_14 : decode cX3_box 14 = .ok (.getfield 113, 3) := by decide +kernel
theorem dX3_box_17 : decode cX3_box 17 = .ok (.invokevirtual 197, 3) := by decide +kernel
theorem dX3_box_20 : decode cX3_box 20 = .ok (.aload_n 0, 1) := by decide +kernel
theorem dX3_box_21 : decode cX3_box 21 = .ok (.aload_n 0, 1) := by decide +kernel
theorem dX3_box_22 : decode cX3_box 22 = .ok (.getfield 24, 3) := by decide +kernel
theorem dX3_box_25 : decode cX3_box 25 = .ok (.getfield 113, 3) := by decide +kernel
theorem dX3_box_28 : decode cX3_box 28 = .ok (.getfield 200, 3) := by decide +kernel
theorem dX3_box_31 : decode cX3_box 31 = .ok (.aload_n 0, 1) := by decide +kernel
theorem dX3_box_32 : decode cX3_box 32 = .ok (.getfield 24, 3) := by decide +kernel
theorem dX3_box_35 : decode cX3_box 35 = .ok (.getfield 113, 3) := by decide +kernel
theorem dX3_box_38 : decode cX3_box 38 = .ok (.getfield 167, 3) := by decide +kernel
theorem dX3_box_41 : decode cX3_box 41 = .ok (.invokevirtual 79, 3) := by decide +kernel
theorem dX3_box_44 : decode cX3_box 44 = .ok (.ireturn, 1) := by decide +kernel
theorem dX3_later_0 : decode cX3_later 0 = .ok (.aload_n 0, 1) := by decide +kernel
theorem dX3_later_1 : decode cX3_later 1 = .ok (.iload_n 1, 1) := by decide +kernel
theorem dX3_later_2 : decode cX3_later 2 = .ok (.invokevirtual 119, 3) := by decide +kernel
theorem dX3_later_5 : decode cX3_later 5 = .ok (.ifCond .eq 13, 3) := by decide +kernel
theorem dX3_later_8 : decode cX3_later 8 = .ok (.iload_n 2, 1) := by decide +kernel
theorem dX3_later_9 : decode cX3_later 9 = .ok (.ifCond .lt 9, 3) := by decide +kernel
theorem dX3_later_12 : decode cX3_later 12 = .ok (.iload_n 2, 1) := by decide +kernel
theorem dX3_later_13 : decode cX3_later 13 = .ok (.bipush 60, 2) := by decide +kernel
theorem dX3_later_15 : decode cX3_later 15 = .ok (.if_icmp .le 5, 3) := by decide +kernel
theorem dX3_later_18 : decode cX3_later 18 = .ok (.iconst (-1), 1) := by decide +kernel
theorem dX3_later_19 : decode cX3_later 19 = .ok (.ireturn, 1) := by decide +kernel
theorem dX3_later_20 : decode cX3_later 20 = .ok (.aload_n 0, 1) := by decide +kernel
theorem dX3_later_21 : decode cX3_later 21 = .ok (.getfield 31, 3) := by decide +kernel
theorem dX3_later_24 : decode cX3_later 24 = .ok (.aload_n 0, 1) := by decide +kernel
theorem dX3_later_25 : decode cX3_later 25 = .ok (.getfield 24, 3) := by decide +kernel
theorem dX3_later_28 : decode cX3_later 28 = .ok (.getfield 113, 3) := by decide +kernel
theorem dX3_later_31 : decode cX3_later 31 = .ok (.invokevirtual 203, 3) := by decide +kernel
theorem dX3_later_34 : decode cX3_later 34 = .ok (.iconst 0, 1) := by decide +kernel
theorem dX3_later_35 : decode cX3_later 35 = .ok (.istore_n 3, 1) := by decide +kernel
theorem dX3_later_36 : decode cX3_later 36 = .ok (.iconst 0, 1) := by decide +kernel
theorem dX3_later_37 : decode cX3_later 37 = .ok (.istore 4, 2) := by decide +kernel
theorem dX3_later_39 : decode cX3_later 39 = .ok (.iload 4, 2) := by decide +kernel
theorem dX3_later_41 : decode cX3_later 41 = .ok (.iload_n 2, 1) := by decide +kernel
theorem dX3_later_42 : decode cX3_later 42 = .ok (.if_icmp .ge 29, 3) := by decide +kernel
theorem dX3_later_45 : decode cX3_later 45 = .ok (.aload_n 0, 1) := by decide +kernel
theorem dX3_later_46 : decode cX3_later 46 = .ok (.getfield 31, 3) := by decide +kernel
theorem dX3_later_49 : decode cX3_later 49 = .ok (.invokevirtual 206, 3) := by decide +kernel
theorem dX3_later_52 : decode cX3_later 52 = .ok (.pop, 1) := by decide +kernel
theorem dX3_later_53 : decode cX3_later 53 = .ok (.iload_n 3, 1) := by decide +kernel
theorem dX3_later_54 : decode cX3_later 54 = .ok (.aload_n 0, 1) := by decide +kernel
theorem dX3_later_55 : decode cX3_later 55 = .ok (.getfield 31, 3) := by decide +kernel
theorem dX3_later_58 : decode cX3_later 58 = .ok (.getfield 209, 3) := by decide +kernel
theorem dX3_later_61 : decode cX3_later 61 = .ok (.iload_n 1, 1) := by decide +kernel
theorem dX3_later_62 : decode cX3_later 62 = .ok (.iaload, 1) := by decide +kernel
theorem dX3_later_63 : decode cX3_later 63 = .ok (.iadd, 1) := by decide +kernel
theorem dX3_later_64 : decode cX3_later 64 = .ok (.istore_n 3, 1) := by decide +kernel
theorem dX3_later_65 : decode cX3_later 65 = .ok (.iinc 4 1, 3) := by decide +kernel
theorem dX3_later_68 : decode cX3_later 68 = .ok (.goto (-29), 3) := by decide +kernel
theorem dX3_later_71 : decode cX3_later 71 = .ok (.aload_n 0, 1) := by decide +kernel
theorem dX3_later_72 : decode cX3_later 72 = .ok (.iload_n 3, 1) := by decide +kernel
theorem dX3_later_73 : decode cX3_later 73 = .ok (.aload_n 0, 1) := by decide +kernel
theorem dX3_later_74 : decode cX3_later 74 = .ok (.getfield 31, 3) := by decide +kernel
theorem dX3_later_77 : decode cX3_later 77 = .ok (.getfield 176, 3) := by decide +kernel
theorem dX3_later_80 : decode cX3_later 80 = .ok (.iload_n 1, 1) := by decide +kernel
theorem dX3_later_81 : decode cX3_later 81 = .ok (.iaload, 1) := by decide +kernel
theorem dX3_later_82 : decode cX3_later 82 = .ok (.invokevirtual 79, 3) := by decide +kernel
theorem dX3_later_85 : decode cX3_later 85 = .ok (.ireturn, 1) := by decide +kernel
theorem dX3_settles_0 : decode cX3_settles 0 = .ok (.aload_n 0, 1) := by decide +kernel
theorem dX3_settles_1 : decode cX3_settles 1 = .ok (.invokevirtual 150, 3) := by decide +kernel
theorem dX3_settles_4 : decode cX3_settles 4 = .ok (.ifCond .eq 6, 3) := by decide +kernel
theorem dX3_settles_7 : decode cX3_settles 7 = .ok (.bipush (-4), 2) := by decide +kernel
theorem dX3_settles_9 : decode cX3_settles 9 = .ok (.ireturn, 1) := by decide +kernel
theorem dX3_settles_10 : decode cX3_settles 10 = .ok (.aload_n 0, 1) := by decide +kernel
theorem dX3_settles_11 : decode cX3_settles 11 = .ok (.getfield 31, 3) := by decide +kernel
theorem dX3_settles_14 : decode cX3_settles 14 = .ok (.aload_n 0, 1) := by decide +kernel
theorem dX3_settles_15 : decode cX3_settles 15 = .ok (.getfield 24, 3) := by decide +kernel
theorem dX3_settles_18 : decode cX3_settles 18 = .ok (.getfield 113, 3) := by decide +kernel
theorem dX3_settles_21 : decode cX3_settles 21 = .ok (.invokevirtual 203, 3) := by decide +kernel
theorem dX3_settles_24 : decode cX3_settles 24 = .ok (.iconst 0, 1) := by decide +kernel
theorem dX3_settles_25 : decode cX3_settles 25 = .ok (.istore_n 1, 1) := by decide +kernel
theorem dX3_settles_26 : decode cX3_settles 26 = .ok (.iload_n 1, 1) := by decide +kernel
theorem dX3_settles_27 : decode cX3_settles 27 = .ok (.bipush 60, 2) := by decide +kernel
theorem dX3_settles_29 : decode cX3_settles 29 = .ok (.if_icmp .gt 32, 3) := by decide +kernel
theorem dX3_settles_32 : decode cX3_settles 32 = .ok (.aload_n 0, 1) := by decide +kernel
theorem dX3_settles_33 : decode cX3_settles 33 = .ok (.getfield 31, 3) := by decide +kernel
theorem dX3_settles_36 : decode cX3_settles 36 = .ok (.invokevirtual 206, 3) := by decide +kernel
theorem dX3_settles_39 : decode cX3_settles 39 = .ok (.ifCond .ne 16, 3) := by decide +kernel
theorem dX3_settles_42 : decode cX3_settles 42 = .ok (.aload_n 0, 1) := by decide +kernel
theorem dX3_settles_43 : decode cX3_settles 43 = .ok (.aload_n 0, 1) := by decide +kernel
theorem dX3_settles_44 : decode cX3_settles 44 = .ok (.getfield 31, 3) := by decide +kernel
theorem dX3_settles_47 : decode cX3_settles 47 = .ok (.getfield 167, 3) := by decide +kernel
theorem dX3_settles_50 : decode cX3_settles 50 = .ok (.iload_n 1, 1) := by decide +kernel
theorem dX3_settles_51 : decode cX3_settles 51 = .ok (.invokevirtual 79, 3) := by decide +kernel
theorem dX3_settles_54 : decode cX3_settles 54 = .ok (.ireturn, 1) := by decide +kernel
theorem dX3_settles_55 : decode cX3_settles 55 = .ok (.iinc 1 1, 3) := by decide +kernel
theorem dX3_settles_58 : decode cX3_settles 58 = .ok (.goto (-32), 3) := by decide +kernel
theorem dX3_settles_61 : decode cX3_settles 61 = .ok (.bipush (-9), 2) := by decide +kernel
theorem dX3_settles_63 : decode cX3_settles 63 = .ok (.ireturn, 1) := by decide +kernel
theorem dX3_mill_0 : decode cX3_mill 0 = .ok (.iload_n 1, 1) := by decide +kernel
theorem dX3_mill_1 : decode cX3_mill 1 = .ok (.ifCond .lt 9, 3) := by decide +kernel
theorem dX3_mill_4 : decode cX3_mill 4 = .ok (.iload_n 1, 1) := by decide +kernel
theorem dX3_mill_5 : decode cX3_mill 5 = .ok (.bipush 99, 2) := by decide +kernel
theorem dX3_mill_7 : decode cX3_mill 7 = .ok (.if_icmp .le 5, 3) := by decide +kernel
theorem dX3_mill_10 : decode cX3_mill 10 = .ok (.iconst (-1), 1) := by decide +kernel
theorem dX3_mill_11 : decode cX3_mill 11 = .ok (.ireturn, 1) := by decide +kernel
theorem dX3_mill_12 : decode cX3_mill 12 = .ok (.aload_n 0, 1) := by decide +kernel
theorem dX3_mill_13 : decode cX3_mill 13 = .ok (.invokevirtual 150, 3) := by decide +kernel
theorem dX3_mill_16 : decode cX3_mill 16 = .ok (.ifCond .eq 6, 3) := by decide +kernel
theorem dX3_mill_19 : decode cX3_mill 19 = .ok (.bipush (-4), 2) := by decide +kernel
theorem dX3_mill_21 : decode cX3_mill 21 = .ok (.ireturn, 1) := by decide +kernel
theorem dX3_mill_22 : decode cX3_mill 22 = .ok (.aload_n 0, 1) := by decide +kernel
theorem dX3_mill_23 : decode cX3_mill 23 = .ok (.getfield 31, 3) := by decide +kernel
theorem dX3_mill_26 : decode cX3_mill 26 = .ok (.aload_n 0, 1) := by decide +kernel
theorem dX3_mill_27 : decode cX3_mill 27 = .ok (.getfield 24, 3) := by decide +kernel
theorem dX3_mill_30 : decode cX3_mill 30 = .ok (.getfield 113, 3) := by decide +kernel
theorem dX3_mill_33 : decode cX3_mill 33 = .ok (.invokevirtual 203, 3) := by decide +kernel
theorem dX3_mill_36 : decode cX3_mill 36 = .ok (.iconst 0, 1) := by decide +kernel
theorem dX3_mill_37 : decode cX3_mill 37 = .ok (.istore_n 2, 1) := by decide +kernel
theorem dX3_mill_38 : decode cX3_mill 38 = .ok (.iload_n 2, 1) := by decide +kernel
theorem dX3_mill_39 : decode cX3_mill 39 = .ok (.bipush 60, 2) := by decide +kernel
theorem dX3_mill_41 : decode cX3_mill 41 = .ok (.if_icmp .gt 39, 3) := by decide +kernel
theorem dX3_mill_44 : decode cX3_mill 44 = .ok (.aload_n 0, 1) := by decide +kernel
theorem dX3_mill_45 : decode cX3_mill 45 = .ok (.getfield 31, 3) := by decide +kernel
theorem dX3_mill_48 : decode cX3_mill 48 = .ok (.iload_n 1, 1) := by decide +kernel
theorem dX3_mill_49 : decode cX3_mill 49 = .ok (.invokevirtual 212, 3) := by decide +kernel
theorem dX3_mill_52 : decode cX3_mill 52 = .ok (.istore_n 3, 1) := by decide +kernel
theorem dX3_mill_53 : decode cX3_mill 53 = .ok (.iload_n 3, 1) := by decide +kernel
theorem dX3_mill_54 : decode cX3_mill 54 = .ok (.bipush (-9), 2) := by decide +kernel
theorem dX3_mill_56 : decode cX3_mill 56 = .ok (.if_icmp .eq 10, 3) := by decide +kernel
theorem dX3_mill_59 : decode cX3_mill 59 = .ok (.aload_n 0, 1) := by decide +kernel
theorem dX3_mill_60 : decode cX3_mill 60 = .ok (.iload_n 2, 1) := by decide +kernel
theorem dX3_mill_61 : decode cX3_mill 61 = .ok (.iload_n 3, 1) := by decide +kernel
theorem dX3_mill_62 : decode cX3_mill 62 = .ok (.invokevirtual 79, 3) := by decide +kernel
theorem dX3_mill_65 : decode cX3_mill 65 = .ok (.ireturn, 1) := by decide +kernel
theorem dX3_mill_66 : decode cX3_mill 66 = .ok (.aload_n 0, 1) := by decide +kernel
theorem dX3_mill_67 : decode cX3_mill 67 = .ok (.getfield 31, 3) := by decide +kernel
theorem dX3_mill_70 : decode cX3_mill 70 = .ok (.invokevirtual 206, 3) := by decide +kernel
theorem dX3_mill_73 : decode cX3_mill 73 = .ok (.pop, 1) := by decide +kernel
theorem dX3_mill_74 : decode cX3_mill 74 = .ok (.iinc 2 1, 3) := by decide +kernel
theorem dX3_mill_77 : decode cX3_mill 77 = .ok (.goto (-39), 3) := by decide +kernel
theorem dX3_mill_80 : decode cX3_mill 80 = .ok (.bipush (-9), 2) := by decide +kernel
theorem dX3_mill_82 : decode cX3_mill 82 = .ok (.ireturn, 1) := by decide +kernel
theorem dX3_gains_0 : decode cX3_gains 0 = .ok (.iload_n 1, 1) := by decide +kernel
theorem dX3_gains_1 : decode cX3_gains 1 = .ok (.iconst 1, 1) := by decide +kernel
theorem dX3_gains_2 : decode cX3_gains 2 = .ok (.if_icmp .lt 9, 3) := by decide +kernel
theorem dX3_gains_5 : decode cX3_gains 5 = .ok (.iload_n 1, 1) := by decide +kernel
theorem dX3_gains_6 : decode cX3_gains 6 = .ok (.bipush 40, 2) := by decide +kernel
theorem dX3_gains_8 : decode cX3_gains 8 = .ok (.if_icmp .le 5, 3) := by decide +kernel
theorem dX3_gains_11 : decode cX3_gains 11 = .ok (.iconst (-1), 1) := by decide +kernel
theorem dX3_gains_12 : decode cX3_gains 12 = .ok (.ireturn, 1) := by decide +kernel
theorem dX3_gains_13 : decode cX3_gains 13 = .ok (.aload_n 0, 1) := by decide +kernel
theorem dX3_gains_14 : decode cX3_gains 14 = .ok (.invokevirtual 150, 3) := by decide +kernel
theorem dX3_gains_17 : decode cX3_gains 17 = .ok (.ifCond .eq 6, 3) := by decide +kernel
theorem dX3_gains_20 : decode cX3_gains 20 = .ok (.bipush (-4), 2) := by decide +kernel
theorem dX3_gains_22 : decode cX3_gains 22 = .ok (.ireturn, 1) := by decide +kernel
theorem dX3_gains_23 : decode cX3_gains 23 = .ok (.iconst 0, 1) := by decide +kernel
theorem dX3_gains_24 : decode cX3_gains 24 = .ok (.istore_n 2, 1) := by decide +kernel
theorem dX3_gains_25 : decode cX3_gains 25 = .ok (.iconst 0, 1) := by decide +kernel
theorem dX3_gains_26 : decode cX3_gains 26 = .ok (.istore_n 3, 1) := by decide +kernel
theorem dX3_gains_27 : decode cX3_gains 27 = .ok (.iload_n 3, 1) := by decide +kernel
theorem dX3_gains_28 : decode cX3_gains 28 = .ok (.aload_n 0, 1) := by decide +kernel
theorem dX3_gains_29 : decode cX3_gains 29 = .ok (.getfield 24, 3) := by decide +kernel
theorem dX3_gains_32 : decode cX3_gains 32 = .ok (.getfield 113, 3) := by decide +kernel
theorem dX3_gains_35 : decode cX3_gains 35 = .ok (.getfield 116, 3) := by decide +kernel
theorem dX3_gains_38 : decode cX3_gains 38 = .ok (.if_icmp .ge 48, 3) := by decide +kernel
theorem dX3_gains_41 : decode cX3_gains 41 = .ok (.aload_n 0, 1) := by decide +kernel
theorem dX3_gains_42 : decode cX3_gains 42 = .ok (.getfield 24, 3) := by decide +kernel
theorem dX3_gains_45 : decode cX3_gains 45 = .ok (.getfield 113, 3) := by decide +kernel
theorem dX3_gains_48 : decode cX3_gains 48 = .ok (.getfield 170, 3) := by decide +kernel
theorem dX3_gains_51 : decode cX3_gains 51 = .ok (.iload_n 3, 1) := by decide +kernel
theorem dX3_gains_52 : decode cX3_gains 52 = .ok (.iaload, 1) := by decide +kernel
theorem dX3_gains_53 : decode cX3_gains 53 = .ok (.iconst 3, 1) := by decide +kernel
theorem dX3_gains_54 : decode cX3_gains 54 = .ok (.if_icmp .ge 26, 3) := by decide +kernel
theorem dX3_gains_57 : decode cX3_gains 57 = .ok (.aload_n 0, 1) := by decide +kernel
theorem dX3_gains_58 : decode cX3_gains 58 = .ok (.iload_n 3, 1) := by decide +kernel
theorem dX3_gains_59 : decode cX3_gains 59 = .ok (.iconst 1, 1) := by decide +kernel
theorem dX3_gains_60 : decode cX3_gains 60 = .ok (.iload_n 1, 1) := by decide +kernel
theorem dX3_gains_61 : decode cX3_gains 61 = .ok (.invokevirtual 215, 3) := by decide +kernel
theorem dX3_gains_64 : decode cX3_gains 64 = .ok (.aload_n 0, 1) := by decide +kernel
theorem dX3_gains_65 : decode cX3_gains 65 = .ok (.iload_n 3, 1) := by decide +kernel
theorem dX3_gains_66 : decode cX3_gains 66 = .ok (.iconst 0, 1) := by decide +kernel
theorem dX3_gains_67 : decode cX3_gains 67 = .ok (.iload_n 1, 1) := by decide +kernel
theorem dX3_gains_68 : decode cX3_gains 68 = .ok (.invokevirtual 215, 3) := by decide +kernel
theorem dX3_gains_71 : decode cX3_gains 71 = .ok (.if_icmp .le 9, 3) := by decide +kernel
theorem dX3_gains_74 : decode cX3_gains 74 = .ok (.iload_n 2, 1) := by decide +kernel
theorem dX3_gains_75 : decode cX3_gains 75 = .ok (.iconst 1, 1) := by decide +kernel
theorem dX3_gains_76 : decode cX3_gains 76 = .ok (.iload_n 3, 1) := by decide +kernel
theorem dX3_gains_77 : decode cX3_gains 77 = .ok (.ishl, 1) := by decide +kernel
theorem dX3_gains_78 : decode cX3_gains 78 = .ok (.ior, 1) := by decide +kernel
theorem dX3_gains_79 : decode cX3_gains 79 = .ok (.istore_n 2, 1) := by decide +kernel
theorem dX3_gains_80 : decode cX3_gains 80 = .ok (.iinc 3 1, 3) := by decide +kernel
theorem dX3_gains_83 : decode cX3_gains 83 = .ok (.goto (-56), 3) := by decide +kernel
theorem dX3_gains_86 : decode cX3_gains 86 = .ok (.iload_n 2, 1) := by decide +kernel
theorem dX3_gains_87 : decode cX3_gains 87 = .ok (.ireturn, 1) := by decide +kernel
theorem dX3_even_0 : decode cX3_even 0 = .ok (.aload_n 0, 1) := by decide +kernel
theorem dX3_even_1 : decode cX3_even 1 = .ok (.iload_n 1, 1) := by decide +kernel
theorem dX3_even_2 : decode cX3_even 2 = .ok (.iload_n 2, 1) := by decide +kernel
theorem dX3_even_3 : decode cX3_even 3 = .ok (.invokevirtual 173, 3) := by decide +kernel
theorem dX3_even_6 : decode cX3_even 6 = .ok (.ifCond .eq 21, 3) := by decide +kernel
theorem dX3_even_9 : decode cX3_even 9 = .ok (.iload_n 3, 1) := by decide +kernel
theorem dX3_even_10 : decode cX3_even 10 = .ok (.ifCond .lt 17, 3) := by decide +kernel
theorem dX3_even_13 : decode cX3_even 13 = .ok (.iload_n 3, 1) := by decide +kernel
theorem dX3_even_14 : decode cX3_even 14 = .ok (.bipush 20, 2) := by decide +kernel
theorem dX3_even_16 : decode cX3_even 16 = .ok (.if_icmp .gt 11, 3) := by decide +kernel
theorem dX3_even_19 : decode cX3_even 19 = .ok (.iload 4, 2) := by decide +kernel
theorem dX3_even_21 : decode cX3_even 21 = .ok (.invokestatic 59, 3) := by decide +kernel
theorem dX3_even_24 : decode cX3_even 24 = .ok (.ifCond .ne 5, 3) := by decide +kernel
theorem dX3_even_27 : decode cX3_even 27 = .ok (.iconst (-1), 1) := by decide +kernel
theorem dX3_even_28 : decode cX3_even 28 = .ok (.ireturn, 1) := by decide +kernel
theorem dX3_even_29 : decode cX3_even 29 = .ok (.aload_n 0, 1) := by decide +kernel
theorem dX3_even_30 : decode cX3_even 30 = .ok (.getfield 24, 3) := by decide +kernel
theorem dX3_even_33 : decode cX3_even 33 = .ok (.getfield 113, 3) := by decide +kernel
end
section
theorem dX3_even_36 : decode cX3_even 36 = .ok (.getfield 116, 3) := by decide +kernel
theorem dX3_even_39 : decode cX3_even 39 = .ok (.istore 5, 2) := by decide +kernel
theorem dX3_even_41 : decode cX3_even 41 = .ok (.iconst 1, 1) := by decide +kernel
theorem dX3_even_42 : decode cX3_even 42 = .ok (.iconst 2, 1) := by decide +kernel
theorem dX3_even_43 : decode cX3_even 43 = .ok (.iload 5, 2) := by decide +kernel
theorem dX3_even_45 : decode cX3_even 45 = .ok (.imul, 1) := by decide +kernel
theorem dX3_even_46 : decode cX3_even 46 = .ok (.ishl, 1) := by decide +kernel
theorem dX3_even_47 : decode cX3_even 47 = .ok (.istore 6, 2) := by decide +kernel
theorem dX3_even_49 : decode cX3_even 49 = .ok (.iconst 0, 1) := by decide +kernel
theorem dX3_even_50 : decode cX3_even 50 = .ok (.istore 7, 2) := by decide +kernel
theorem dX3_even_52 : decode cX3_even 52 = .ok (.iload 7, 2) := by decide +kernel
theorem dX3_even_54 : decode cX3_even 54 = .ok (.iload 5, 2) := by decide +kernel
theorem dX3_even_56 : decode cX3_even 56 = .ok (.if_icmp .gt 59, 3) := by decide +kernel
theorem dX3_even_59 : decode cX3_even 59 = .ok (.iconst 0, 1) := by decide +kernel
theorem dX3_even_60 : decode cX3_even 60 = .ok (.istore 8, 2) := by decide +kernel
theorem dX3_even_62 : decode cX3_even 62 = .ok (.iload 8, 2) := by decide +kernel
theorem dX3_even_64 : decode cX3_even 64 = .ok (.iload 6, 2) := by decide +kernel
theorem dX3_even_66 : decode cX3_even 66 = .ok (.if_icmp .ge 43, 3) := by decide +kernel
theorem dX3_even_69 : decode cX3_even 69 = .ok (.aload_n 0, 1) := by decide +kernel
theorem dX3_even_70 : decode cX3_even 70 = .ok (.iload 8, 2) := by decide +kernel
theorem dX3_even_72 : decode cX3_even 72 = .ok (.invokevirtual 219, 3) := by decide +kernel
theorem dX3_even_75 : decode cX3_even 75 = .ok (.iload 7, 2) := by decide +kernel
theorem dX3_even_77 : decode cX3_even 77 = .ok (.if_icmp .ne 26, 3) := by decide +kernel
theorem dX3_even_80 : decode cX3_even 80 = .ok (.aload_n 0, 1) := by decide +kernel
theorem dX3_even_81 : decode cX3_even 81 = .ok (.iload 8, 2) := by decide +kernel
theorem dX3_even_83 : decode cX3_even 83 = .ok (.iload_n 1, 1) := by decide +kernel
theorem dX3_even_84 : decode cX3_even 84 = .ok (.iload_n 2, 1) := by decide +kernel
theorem dX3_even_85 : decode cX3_even 85 = .ok (.iload_n 3, 1) := by decide +kernel
theorem dX3_even_86 : decode cX3_even 86 = .ok (.invokevirtual 222, 3) := by decide +kernel
theorem dX3_even_89 : decode cX3_even 89 = .ok (.ifCond .eq 14, 3) := by decide +kernel
theorem dX3_even_92 : decode cX3_even 92 = .ok (.aload_n 0, 1) := by decide +kernel
theorem dX3_even_93 : decode cX3_even 93 = .ok (.iload 4, 2) := by decide +kernel
theorem dX3_even_95 : decode cX3_even 95 = .ok (.iload 8, 2) := by decide +kernel
theorem dX3_even_97 : decode cX3_even 97 = .ok (.invokevirtual 226, 3) := by decide +kernel
theorem dX3_even_100 : decode cX3_even 100 = .ok (.iload 7, 2) := by decide +kernel
theorem dX3_even_102 : decode cX3_even 102 = .ok (.ireturn, 1) := by decide +kernel
theorem dX3_even_103 : decode cX3_even 103 = .ok (.iinc 8 1, 3) := by decide +kernel
theorem dX3_even_106 : decode cX3_even 106 = .ok (.goto (-44), 3) := by decide +kernel
theorem dX3_even_109 : decode cX3_even 109 = .ok (.iinc 7 1, 3) := by decide +kernel
theorem dX3_even_112 : decode cX3_even 112 = .ok (.goto (-60), 3) := by decide +kernel
theorem dX3_even_115 : decode cX3_even 115 = .ok (.bipush (-9), 2) := by decide +kernel
theorem dX3_even_117 : decode cX3_even 117 = .ok (.ireturn, 1) := by decide +kernel
theorem dX3_change_0 : decode cX3_change 0 = .ok (.iload_n 1, 1) := by decide +kernel
theorem dX3_change_1 : decode cX3_change 1 = .ok (.iconst 1, 1) := by decide +kernel
theorem dX3_change_2 : decode cX3_change 2 = .ok (.if_icmp .lt 9, 3) := by decide +kernel
theorem dX3_change_5 : decode cX3_change 5 = .ok (.iload_n 1, 1) := by decide +kernel
theorem dX3_change_6 : decode cX3_change 6 = .ok (.bipush 20, 2) := by decide +kernel
theorem dX3_change_8 : decode cX3_change 8 = .ok (.if_icmp .le 5, 3) := by decide +kernel
theorem dX3_change_11 : decode cX3_change 11 = .ok (.iconst (-1), 1) := by decide +kernel
theorem dX3_change_12 : decode cX3_change 12 = .ok (.ireturn, 1) := by decide +kernel
theorem dX3_change_13 : decode cX3_change 13 = .ok (.aload_n 0, 1) := by decide +kernel
theorem dX3_change_14 : decode cX3_change 14 = .ok (.invokevirtual 150, 3) := by decide +kernel
theorem dX3_change_17 : decode cX3_change 17 = .ok (.ifCond .eq 6, 3) := by decide +kernel
theorem dX3_change_20 : decode cX3_change 20 = .ok (.bipush (-4), 2) := by decide +kernel
theorem dX3_change_22 : decode cX3_change 22 = .ok (.ireturn, 1) := by decide +kernel
theorem dX3_change_23 : decode cX3_change 23 = .ok (.aload_n 0, 1) := by decide +kernel
theorem dX3_change_24 : decode cX3_change 24 = .ok (.getfield 24, 3) := by decide +kernel
theorem dX3_change_27 : decode cX3_change 27 = .ok (.getfield 113, 3) := by decide +kernel
theorem dX3_change_30 : decode cX3_change 30 = .ok (.getfield 116, 3) := by decide +kernel
theorem dX3_change_33 : decode cX3_change 33 = .ok (.istore_n 2, 1) := by decide +kernel
theorem dX3_change_34 : decode cX3_change 34 = .ok (.aload_n 0, 1) := by decide +kernel
theorem dX3_change_35 : decode cX3_change 35 = .ok (.iconst 0, 1) := by decide +kernel
theorem dX3_change_36 : decode cX3_change 36 = .ok (.iconst 0, 1) := by decide +kernel
theorem dX3_change_37 : decode cX3_change 37 = .ok (.iload_n 1, 1) := by decide +kernel
theorem dX3_change_38 : decode cX3_change 38 = .ok (.invokevirtual 229, 3) := by decide +kernel
theorem dX3_change_41 : decode cX3_change 41 = .ok (.istore_n 3, 1) := by decide +kernel
theorem dX3_change_42 : decode cX3_change 42 = .ok (.bipush (-9), 2) := by decide +kernel
theorem dX3_change_44 : decode cX3_change 44 = .ok (.istore 4, 2) := by decide +kernel
theorem dX3_change_46 : decode cX3_change 46 = .ok (.iconst 0, 1) := by decide +kernel
theorem dX3_change_47 : decode cX3_change 47 = .ok (.istore 5, 2) := by decide +kernel
theorem dX3_change_49 : decode cX3_change 49 = .ok (.iload 5, 2) := by decide +kernel
theorem dX3_change_51 : decode cX3_change 51 = .ok (.iload_n 2, 1) := by decide +kernel
theorem dX3_change_52 : decode cX3_change 52 = .ok (.if_icmp .ge 57, 3) := by decide +kernel
theorem dX3_change_55 : decode cX3_change 55 = .ok (.iload 5, 2) := by decide +kernel
theorem dX3_change_57 : decode cX3_change 57 = .ok (.iconst 1, 1) := by decide +kernel
theorem dX3_change_58 : decode cX3_change 58 = .ok (.iadd, 1) := by decide +kernel
theorem dX3_change_59 : decode cX3_change 59 = .ok (.istore 6, 2) := by decide +kernel
theorem dX3_change_61 : decode cX3_change 61 = .ok (.iload 6, 2) := by decide +kernel
theorem dX3_change_63 : decode cX3_change 63 = .ok (.iload_n 2, 1) := by decide +kernel
theorem dX3_change_64 : decode cX3_change 64 = .ok (.if_icmp .ge 39, 3) := by decide +kernel
theorem dX3_change_67 : decode cX3_change 67 = .ok (.aload_n 0, 1) := by decide +kernel
theorem dX3_change_68 : decode cX3_change 68 = .ok (.iload 5, 2) := by decide +kernel
theorem dX3_change_70 : decode cX3_change 70 = .ok (.iload 6, 2) := by decide +kernel
theorem dX3_change_72 : decode cX3_change 72 = .ok (.iload_n 1, 1) := by decide +kernel
theorem dX3_change_73 : decode cX3_change 73 = .ok (.invokevirtual 229, 3) := by decide +kernel
theorem dX3_change_76 : decode cX3_change 76 = .ok (.istore 7, 2) := by decide +kernel
theorem dX3_change_78 : decode cX3_change 78 = .ok (.iload 7, 2) := by decide +kernel
theorem dX3_change_80 : decode cX3_change 80 = .ok (.iload_n 3, 1) := by decide +kernel
theorem dX3_change_81 : decode cX3_change 81 = .ok (.if_icmp .ge 16, 3) := by decide +kernel
theorem dX3_change_84 : decode cX3_change 84 = .ok (.iload 7, 2) := by decide +kernel
theorem dX3_change_86 : decode cX3_change 86 = .ok (.istore_n 3, 1) := by decide +kernel
theorem dX3_change_87 : decode cX3_change 87 = .ok (.bipush 10, 2) := by decide +kernel
theorem dX3_change_89 : decode cX3_change 89 = .ok (.iload 5, 2) := by decide +kernel
theorem dX3_change_91 : decode cX3_change 91 = .ok (.imul, 1) := by decide +kernel
theorem dX3_change_92 : decode cX3_change 92 = .ok (.iload 6, 2) := by decide +kernel
theorem dX3_change_94 : decode cX3_change 94 = .ok (.iadd, 1) := by decide +kernel
theorem dX3_change_95 : decode cX3_change 95 = .ok (.istore 4, 2) := by decide +kernel
theorem dX3_change_97 : decode cX3_change 97 = .ok (.iinc 6 1, 3) := by decide +kernel
theorem dX3_change_100 : decode cX3_change 100 = .ok (.goto (-39), 3) := by decide +kernel
theorem dX3_change_103 : decode cX3_change 103 = .ok (.iinc 5 1, 3) := by decide +kernel
theorem dX3_change_106 : decode cX3_change 106 = .ok (.goto (-57), 3) := by decide +kernel
theorem dX3_change_109 : decode cX3_change 109 = .ok (.iload 4, 2) := by decide +kernel
theorem dX3_change_111 : decode cX3_change 111 = .ok (.bipush (-9), 2) := by decide +kernel
theorem dX3_change_113 : decode cX3_change 113 = .ok (.if_icmp .ne 8, 3) := by decide +kernel
theorem dX3_change_116 : decode cX3_change 116 = .ok (.bipush (-9), 2) := by decide +kernel
theorem dX3_change_118 : decode cX3_change 118 = .ok (.goto 10, 3) := by decide +kernel
theorem dX3_change_121 : decode cX3_change 121 = .ok (.aload_n 0, 1) := by decide +kernel
theorem dX3_change_122 : decode cX3_change 122 = .ok (.iload_n 3, 1) := by decide +kernel
theorem dX3_change_123 : decode cX3_change 123 = .ok (.iload 4, 2) := by decide +kernel
theorem dX3_change_125 : decode cX3_change 125 = .ok (.invokevirtual 79, 3) := by decide +kernel
theorem dX3_change_128 : decode cX3_change 128 = .ok (.ireturn, 1) := by decide +kernel
theorem dX3_looks_0 : decode cX3_looks 0 = .ok (.aload_n 0, 1) := by decide +kernel
theorem dX3_looks_1 : decode cX3_looks 1 = .ok (.iload_n 1, 1) := by decide +kernel
theorem dX3_looks_2 : decode cX3_looks 2 = .ok (.iload_n 2, 1) := by decide +kernel
theorem dX3_looks_3 : decode cX3_looks 3 = .ok (.invokevirtual 232, 3) := by decide +kernel
theorem dX3_looks_6 : decode cX3_looks 6 = .ok (.istore_n 3, 1) := by decide +kernel
theorem dX3_looks_7 : decode cX3_looks 7 = .ok (.iload_n 3, 1) := by decide +kernel
theorem dX3_looks_8 : decode cX3_looks 8 = .ok (.ifCond .eq 5, 3) := by decide +kernel
theorem dX3_looks_11 : decode cX3_looks 11 = .ok (.iload_n 3, 1) := by decide +kernel
theorem dX3_looks_12 : decode cX3_looks 12 = .ok (.ireturn, 1) := by decide +kernel
theorem dX3_looks_13 : decode cX3_looks 13 = .ok (.iconst 0, 1) := by decide +kernel
theorem dX3_looks_14 : decode cX3_looks 14 = .ok (.istore 4, 2) := by decide +kernel
theorem dX3_looks_16 : decode cX3_looks 16 = .ok (.iconst 0, 1) := by decide +kernel
theorem dX3_looks_17 : decode cX3_looks 17 = .ok (.istore 5, 2) := by decide +kernel
theorem dX3_looks_19 : decode cX3_looks 19 = .ok (.iload 5, 2) := by decide +kernel
theorem dX3_looks_21 : decode cX3_looks 21 = .ok (.bipush 9, 2) := by decide +kernel
theorem dX3_looks_23 : decode cX3_looks 23 = .ok (.if_icmp .gt 52, 3) := by decide +kernel
theorem dX3_looks_26 : decode cX3_looks 26 = .ok (.aload_n 0, 1) := by decide +kernel
theorem dX3_looks_27 : decode cX3_looks 27 = .ok (.iload_n 2, 1) := by decide +kernel
theorem dX3_looks_28 : decode cX3_looks 28 = .ok (.aload_n 0, 1) := by decide +kernel
theorem dX3_looks_29 : decode cX3_looks 29 = .ok (.getfield 24, 3) := by decide +kernel
theorem dX3_looks_32 : decode cX3_looks 32 = .ok (.getfield 113, 3) := by decide +kernel
theorem dX3_looks_35 : decode cX3_looks 35 = .ok (.getfield 125, 3) := by decide +kernel
theorem dX3_looks_38 : decode cX3_looks 38 = .ok (.iload_n 1, 1) := by decide +kernel
theorem dX3_looks_39 : decode cX3_looks 39 = .ok (.iaload, 1) := by decide +kernel
theorem dX3_looks_40 : decode cX3_looks 40 = .ok (.iload 5, 2) := by decide +kernel
theorem dX3_looks_42 : decode cX3_looks 42 = .ok (.aload_n 0, 1) := by decide +kernel
theorem dX3_looks_43 : decode cX3_looks 43 = .ok (.getfield 24, 3) := by decide +kernel
theorem dX3_looks_46 : decode cX3_looks 46 = .ok (.getfield 113, 3) := by decide +kernel
theorem dX3_looks_49 : decode cX3_looks 49 = .ok (.getfield 170, 3) := by decide +kernel
theorem dX3_looks_52 : decode cX3_looks 52 = .ok (.iload_n 1, 1) := by decide +kernel
theorem dX3_looks_53 : decode cX3_looks 53 = .ok (.iaload, 1) := by decide +kernel
theorem dX3_looks_54 : decode cX3_looks 54 = .ok (.invokevirtual 235, 3) := by decide +kernel
theorem dX3_looks_57 : decode cX3_looks 57 = .ok (.ifCond .eq 12, 3) := by decide +kernel
theorem dX3_looks_60 : decode cX3_looks 60 = .ok (.iload 4, 2) := by decide +kernel
theorem dX3_looks_62 : decode cX3_looks 62 = .ok (.iconst 1, 1) := by decide +kernel
theorem dX3_looks_63 : decode cX3_looks 63 = .ok (.iload 5, 2) := by decide +kernel
theorem dX3_looks_65 : decode cX3_looks 65 = .ok (.ishl, 1) := by decide +kernel
theorem dX3_looks_66 : decode cX3_looks 66 = .ok (.ior, 1) := by decide +kernel
theorem dX3_looks_67 : decode cX3_looks 67 = .ok (.istore 4, 2) := by decide +kernel
theorem dX3_looks_69 : decode cX3_looks 69 = .ok (.iinc 5 1, 3) := by decide +kernel
theorem dX3_looks_72 : decode cX3_looks 72 = .ok (.goto (-53), 3) := by decide +kernel
theorem dX3_looks_75 : decode cX3_looks 75 = .ok (.iload 4, 2) := by decide +kernel
theorem dX3_looks_77 : decode cX3_looks 77 = .ok (.ireturn, 1) := by decide +kernel
theorem dX3_kinds_0 : decode cX3_kinds 0 = .ok (.aload_n 0, 1) := by decide +kernel
theorem dX3_kinds_1 : decode cX3_kinds 1 = .ok (.iload_n 1, 1) := by decide +kernel
theorem dX3_kinds_2 : decode cX3_kinds 2 = .ok (.iload_n 2, 1) := by decide +kernel
theorem dX3_kinds_3 : decode cX3_kinds 3 = .ok (.invokevirtual 232, 3) := by decide +kernel
theorem dX3_kinds_6 : decode cX3_kinds 6 = .ok (.istore_n 3, 1) := by decide +kernel
theorem dX3_kinds_7 : decode cX3_kinds 7 = .ok (.iload_n 3, 1) := by decide +kernel
theorem dX3_kinds_8 : decode cX3_kinds 8 = .ok (.ifCond .eq 7, 3) := by decide +kernel
theorem dX3_kinds_11 : decode cX3_kinds 11 = .ok (.iload_n 3, 1) := by decide +kernel
theorem dX3_kinds_12 : decode cX3_kinds 12 = .ok (.goto 9, 3) := by decide +kernel
theorem dX3_kinds_15 : decode cX3_kinds 15 = .ok (.aload_n 0, 1) := by decide +kernel
theorem dX3_kinds_16 : decode cX3_kinds 16 = .ok (.iload_n 1, 1) := by decide +kernel
theorem dX3_kinds_17 : decode cX3_kinds 17 = .ok (.iload_n 2, 1) := by decide +kernel
theorem dX3_kinds_18 : decode cX3_kinds 18 = .ok (.invokevirtual 238, 3) := by decide +kernel
theorem dX3_kinds_21 : decode cX3_kinds 21 = .ok (.ireturn, 1) := by decide +kernel
theorem dX3_test_0 : decode cX3_test 0 = .ok (.aload_n 0, 1) := by decide +kernel
theorem dX3_test_1 : decode cX3_test 1 = .ok (.iload_n 1, 1) := by decide +kernel
theorem dX3_test_2 : decode cX3_test 2 = .ok (.iload_n 2, 1) := by decide +kernel
theorem dX3_test_3 : decode cX3_test 3 = .ok (.invokevirtual 232, 3) := by decide +kernel
theorem dX3_test_6 : decode cX3_test 6 = .ok (.istore_n 3, 1) := by decide +kernel
theorem dX3_test_7 : decode cX3_test 7 = .ok (.iload_n 3, 1) := by decide +kernel
theorem dX3_test_8 : decode cX3_test 8 = .ok (.ifCond .eq 5, 3) := by decide +kernel
theorem dX3_test_11 : decode cX3_test 11 = .ok (.iload_n 3, 1) := by decide +kernel
theorem dX3_test_12 : decode cX3_test 12 = .ok (.ireturn, 1) := by decide +kernel
theorem dX3_test_13 : decode cX3_test 13 = .ok (.aload_n 0, 1) := by decide +kernel
theorem dX3_test_14 : decode cX3_test 14 = .ok (.iload_n 1, 1) := by decide +kernel
theorem dX3_test_15 : decode cX3_test 15 = .ok (.iload_n 2, 1) := by decide +kernel
theorem dX3_test_16 : decode cX3_test 16 = .ok (.invokevirtual 238, 3) := by decide +kernel
theorem dX3_test_19 : decode cX3_test 19 = .ok (.istore 4, 2) := by decide +kernel
theorem dX3_test_21 : decode cX3_test 21 = .ok (.iload 4, 2) := by decide +kernel
theorem dX3_test_23 : decode cX3_test 23 = .ok (.ifCond .ne 6, 3) := by decide +kernel
theorem dX3_test_26 : decode cX3_test 26 = .ok (.bipush (-9), 2) := by decide +kernel
theorem dX3_test_28 : decode cX3_test 28 = .ok (.ireturn, 1) := by decide +kernel
theorem dX3_test_29 : decode cX3_test 29 = .ok (.iconst 0, 1) := by decide +kernel
theorem dX3_test_30 : decode cX3_test 30 = .ok (.istore 5, 2) := by decide +kernel
theorem dX3_test_32 : decode cX3_test 32 = .ok (.bipush 7, 2) := by decide +kernel
theorem dX3_test_34 : decode cX3_test 34 = .ok (.istore 6, 2) := by decide +kernel
theorem dX3_test_36 : decode cX3_test 36 = .ok (.iconst 0, 1) := by decide +kernel
theorem dX3_test_37 : decode cX3_test 37 = .ok (.istore 7, 2) := by decide +kernel
theorem dX3_test_39 : decode cX3_test 39 = .ok (.iload 7, 2) := by decide +kernel
theorem dX3_test_41 : decode cX3_test 41 = .ok (.bipush 99, 2) := by decide +kernel
theorem dX3_test_43 : decode cX3_test 43 = .ok (.if_icmp .gt 35, 3) := by decide +kernel
theorem dX3_test_46 : decode cX3_test 46 = .ok (.aload_n 0, 1) := by decide +kernel
theorem dX3_test_47 : decode cX3_test 47 = .ok (.iload_n 1, 1) := by decide +kernel
theorem dX3_test_48 : decode cX3_test 48 = .ok (.iload 4, 2) := by decide +kernel
theorem dX3_test_50 : decode cX3_test 50 = .ok (.iload 7, 2) := by decide +kernel
theorem dX3_test_52 : decode cX3_test 52 = .ok (.invokevirtual 241, 3) := by decide +kernel
theorem dX3_test_55 : decode cX3_test 55 = .ok (.istore 8, 2) := by decide +kernel
theorem dX3_test_57 : decode cX3_test 57 = .ok (.iload 8, 2) := by decide +kernel
theorem dX3_test_59 : decode cX3_test 59 = .ok (.iload 6, 2) := by decide +kernel
theorem dX3_test_61 : decode cX3_test 61 = .ok (.if_icmp .ge 11, 3) := by decide +kernel
theorem dX3_test_64 : decode cX3_test 64 = .ok (.iload 8, 2) := by decide +kernel
theorem dX3_test_66 : decode cX3_test 66 = .ok (.istore 6, 2) := by decide +kernel
theorem dX3_test_68 : decode cX3_test 68 = .ok (.iload 7, 2) := by decide +kernel
theorem dX3_test_70 : decode cX3_test 70 = .ok (.istore 5, 2) := by decide +kernel
theorem dX3_test_72 : decode cX3_test 72 = .ok (.iinc 7 1, 3) := by decide +kernel
theorem dX3_test_75 : decode cX3_test 75 = .ok (.goto (-36), 3) := by decide +kernel
theorem dX3_test_78 : decode cX3_test 78 = .ok (.aload_n 0, 1) := by decide +kernel
theorem dX3_test_79 : decode cX3_test 79 = .ok (.iload 6, 2) := by decide +kernel
theorem dX3_test_81 : decode cX3_test 81 = .ok (.iload 5, 2) := by decide +kernel
theorem dX3_test_83 : decode cX3_test 83 = .ok (.invokevirtual 79, 3) := by decide +kernel
theorem dX3_test_86 : decode cX3_test 86 = .ok (.ireturn, 1) := by decide +kernel
theorem dX3_duel_0 : decode cX3_duel 0 = .ok (.aload_n 0, 1) := by decide +kernel
theorem dX3_duel_1 : decode cX3_duel 1 = .ok (.iload_n 1, 1) := by decide +kernel
theorem dX3_duel_2 : decode cX3_duel 2 = .ok (.iload_n 2, 1) := by decide +kernel
theorem dX3_duel_3 : decode cX3_duel 3 = .ok (.invokevirtual 173, 3) := by decide +kernel
theorem dX3_duel_6 : decode cX3_duel 6 = .ok (.ifCond .eq 13, 3) := by decide +kernel
theorem dX3_duel_9 : decode cX3_duel 9 = .ok (.iload_n 3, 1) := by decide +kernel
theorem dX3_duel_10 : decode cX3_duel 10 = .ok (.ifCond .lt 9, 3) := by decide +kernel
theorem dX3_duel_13 : decode cX3_duel 13 = .ok (.iload_n 3, 1) := by decide +kernel
theorem dX3_duel_14 : decode cX3_duel 14 = .ok (.bipush 6, 2) := by decide +kernel
theorem dX3_duel_16 : decode cX3_duel 16 = .ok (.if_icmp .le 5, 3) := by decide +kernel
theorem dX3_duel_19 : decode cX3_duel 19 = .ok (.iconst (-1), 1) := by decide +kernel
theorem dX3_duel_20 : decode cX3_duel 20 = .ok (.ireturn, 1) := by decide +kernel
theorem dX3_duel_21 : decode cX3_duel 21 = .ok (.iconst 0, 1) := by decide +kernel
theorem dX3_duel_22 : decode cX3_duel 22 = .ok (.istore 4, 2) := by decide +kernel
theorem dX3_duel_24 : decode cX3_duel 24 = .ok (.iload 4, 2) := by decide +kernel
theorem dX3_duel_26 : decode cX3_duel 26 = .ok (.bipush 16, 2) := by decide +kernel
theorem dX3_duel_28 : decode cX3_duel 28 = .ok (.if_icmp .ge 24, 3) := by decide +kernel
theorem dX3_duel_31 : decode cX3_duel 31 = .ok (.aload_n 0, 1) := by decide +kernel
theorem dX3_duel_32 : decode cX3_duel 32 = .ok (.getfield 35, 3) := by decide +kernel
theorem dX3_duel_35 : decode cX3_duel 35 = .ok (.iload 4, 2) := by decide +kernel
theorem dX3_duel_37 : decode cX3_duel 37 = .ok (.aload_n 0, 1) := by decide +kernel
theorem dX3_duel_38 : decode cX3_duel 38 = .ok (.iload_n 1, 1) := by decide +kernel
theorem dX3_duel_39 : decode cX3_duel 39 = .ok (.iload_n 2, 1) := by decide +kernel
theorem dX3_duel_40 : decode cX3_duel 40 = .ok (.iload 4, 2) := by decide +kernel
theorem dX3_duel_42 : decode cX3_duel 42 = .ok (.invokevirtual 244, 3) := by decide +kernel
theorem dX3_duel_45 : decode cX3_duel 45 = .ok (.iastore, 1) := by decide +kernel
theorem dX3_duel_46 : decode cX3_duel 46 = .ok (.iinc 4 1, 3) := by decide +kernel
theorem dX3_duel_49 : decode cX3_duel 49 = .ok (.goto (-25), 3) := by decide +kernel
theorem dX3_duel_52 : decode cX3_duel 52 = .ok (.iload_n 3, 1) := by decide +kernel
theorem dX3_duel_53 : decode cX3_duel 53 = .ok (.iconst 1, 1) := by decide +kernel
theorem dX3_duel_54 : decode cX3_duel 54 = .ok (.isub, 1) := by decide +kernel
theorem dX3_duel_55 : decode cX3_duel 55 = .ok (.istore 4, 2) := by decide +kernel
theorem dX3_duel_57 : decode cX3_duel 57 = .ok (.iload 4, 2) := by decide +kernel
theorem dX3_duel_59 : decode cX3_duel 59 = .ok (.ifCond .lt 69, 3) := by decide +kernel
theorem dX3_duel_62 : decode cX3_duel 62 = .ok (.aload_n 0, 1) := by decide +kernel
theorem dX3_duel_63 : decode cX3_duel 63 = .ok (.getfield 35, 3) := by decide +kernel
theorem dX3_duel_66 : decode cX3_duel 66 = .ok (.iconst 0, 1) := by decide +kernel
theorem dX3_duel_67 : decode cX3_duel 67 = .ok (.aload_n 0, 1) := by decide +kernel
theorem dX3_duel_68 : decode cX3_duel 68 = .ok (.getfield 39, 3) := by decide +kernel
theorem dX3_duel_71 : decode cX3_duel 71 = .ok (.iconst 0, 1) := by decide +kernel
theorem dX3_duel_72 : decode cX3_duel 72 = .ok (.bipush 16, 2) := by decide +kernel
theorem dX3_duel_74 : decode cX3_duel 74 = .ok (.invokestatic 92, 3) := by decide +kernel
theorem dX3_duel_77 : decode cX3_duel 77 = .ok (.iconst 0, 1) := by decide +kernel
theorem dX3_duel_78 : decode cX3_duel 78 = .ok (.istore 5, 2) := by decide +kernel
theorem dX3_duel_80 : decode cX3_duel 80 = .ok (.iload 5, 2) := by decide +kernel
theorem dX3_duel_82 : decode cX3_duel 82 = .ok (.bipush 16, 2) := by decide +kernel
theorem dX3_duel_84 : decode cX3_duel 84 = .ok (.if_icmp .ge 38, 3) := by decide +kernel
theorem dX3_duel_87 : decode cX3_duel 87 = .ok (.aload_n 0, 1) := by decide +kernel
theorem dX3_duel_88 : decode cX3_duel 88 = .ok (.getfield 35, 3) := by decide +kernel
theorem dX3_duel_91 : decode cX3_duel 91 = .ok (.iload 5, 2) := by decide +kernel
theorem dX3_duel_93 : decode cX3_duel 93 = .ok (.iload 4, 2) := by decide +kernel
theorem dX3_duel_95 : decode cX3_duel 95 = .ok (.iconst 2, 1) := by decide +kernel
theorem dX3_duel_96 : decode cX3_duel 96 = .ok (.irem, 1) := by decide +kernel
theorem dX3_duel_97 : decode cX3_duel 97 = .ok (.ifCond .ne 12, 3) := by decide +kernel
theorem dX3_duel_100 : decode cX3_duel 100 = .ok (.aload_n 0, 1) := by decide +kernel
theorem dX3_duel_101 : decode cX3_duel 101 = .ok (.iload 5, 2) := by decide +kernel
theorem dX3_duel_103 : decode cX3_duel 103 = .ok (.invokevirtual 247, 3) := by decide +kernel
theorem dX3_duel_106 : decode cX3_duel 106 = .ok (.goto 9, 3) := by decide +kernel
theorem dX3_duel_109 : decode cX3_duel 109 = .ok (.aload_n 0, 1) := by decide +kernel
theorem dX3_duel_110 : decode cX3_duel 110 = .ok (.iload 5, 2) := by decide +kernel
theorem dX3_duel_112 : decode cX3_duel 112 = .ok (.invokevirtual 250, 3) := by decide +kernel
theorem dX3_duel_115 : decode cX3_duel 115 = .ok (.iastore, 1) := by decide +kernel
theorem dX3_duel_116 : decode cX3_duel 116 = .ok (.iinc 5 1, 3) := by decide +kernel
theorem dX3_duel_119 : decode cX3_duel 119 = .ok (.goto (-39), 3) := by decide +kernel
theorem dX3_duel_122 : decode cX3_duel 122 = .ok (.iinc 4 (-1), 3) := by decide +kernel
theorem dX3_duel_125 : decode cX3_duel 125 = .ok (.goto (-68), 3) := by decide +kernel
theorem dX3_duel_128 : decode cX3_duel 128 = .ok (.aload_n 0, 1) := by decide +kernel
theorem dX3_duel_129 : decode cX3_duel 129 = .ok (.getfield 35, 3) := by decide +kernel
theorem dX3_duel_132 : decode cX3_duel 132 = .ok (.aload_n 0, 1) := by decide +kernel
theorem dX3_duel_133 : decode cX3_duel 133 = .ok (.getfield 24, 3) := by decide +kernel
theorem dX3_duel_136 : decode cX3_duel 136 = .ok (.getfield 113, 3) := by decide +kernel
theorem dX3_duel_139 : decode cX3_duel 139 = .ok (.getfield 170, 3) := by decide +kernel
theorem dX3_duel_142 : decode cX3_duel 142 = .ok (.iload_n 1, 1) := by decide +kernel
theorem dX3_duel_143 : decode cX3_duel 143 = .ok (.iaload, 1) := by decide +kernel
theorem dX3_duel_144 : decode cX3_duel 144 = .ok (.aload_n 0, 1) := by decide +kernel
theorem dX3_duel_145 : decode cX3_duel 145 = .ok (.getfield 24, 3) := by decide +kernel
theorem dX3_duel_148 : decode cX3_duel 148 = .ok (.getfield 113, 3) := by decide +kernel
theorem dX3_duel_151 : decode cX3_duel 151 = .ok (.getfield 170, 3) := by decide +kernel
theorem dX3_duel_154 : decode cX3_duel 154 = .ok (.iload_n 2, 1) := by decide +kernel
theorem dX3_duel_155 : decode cX3_duel 155 = .ok (.iaload, 1) := by decide +kernel
theorem dX3_duel_156 : decode cX3_duel 156 = .ok (.invokestatic 253, 3) := by decide +kernel
theorem dX3_duel_159 : decode cX3_duel 159 = .ok (.iaload, 1) := by decide +kernel
theorem dX3_duel_160 : decode cX3_duel 160 = .ok (.bipush 100, 2) := by decide +kernel
theorem dX3_duel_162 : decode cX3_duel 162 = .ok (.iadd, 1) := by decide +kernel
theorem dX3_duel_163 : decode cX3_duel 163 = .ok (.ireturn, 1) := by decide +kernel
theorem dX3_odds_0 : decode cX3_odds 0 = .ok (.aload_n 0, 1) := by decide +kernel
theorem dX3_odds_1 : decode cX3_odds 1 = .ok (.iload_n 1, 1) := by decide +kernel
theorem dX3_odds_2 : decode cX3_odds 2 = .ok (.invokevirtual 119, 3) := by decide +kernel
theorem dX3_odds_5 : decode cX3_odds 5 = .ok (.ifCond .eq 23, 3) := by decide +kernel
theorem dX3_odds_8 : decode cX3_odds 8 = .ok (.iload_n 2, 1) := by decide +kernel
theorem dX3_odds_9 : decode cX3_odds 9 = .ok (.ifCond .lt 19, 3) := by decide +kernel
theorem dX3_odds_12 : decode cX3_odds 12 = .ok (.iload_n 2, 1) := by decide +kernel
theorem dX3_odds_13 : decode cX3_odds 13 = .ok (.bipush 40, 2) := by decide +kernel
theorem dX3_odds_15 : decode cX3_odds 15 = .ok (.if_icmp .gt 13, 3) := by decide +kernel
theorem dX3_odds_18 : decode cX3_odds 18 = .ok (.iload_n 3, 1) := by decide +kernel
theorem dX3_odds_19 : decode cX3_odds 19 = .ok (.ifCond .lt 9, 3) := by decide +kernel
theorem dX3_odds_22 : decode cX3_odds 22 = .ok (.iload_n 3, 1) := by decide +kernel
theorem dX3_odds_23 : decode cX3_odds 23 = .ok (.bipush 12, 2) := by decide +kernel
theorem dX3_odds_25 : decode cX3_odds 25 = .ok (.if_icmp .le 5, 3) := by decide +kernel
theorem dX3_odds_28 : decode cX3_odds 28 = .ok (.iconst (-1), 1) := by decide +kernel
theorem dX3_odds_29 : decode cX3_odds 29 = .ok (.ireturn, 1) := by decide +kernel
theorem dX3_odds_30 : decode cX3_odds 30 = .ok (.aload_n 0, 1) := by decide +kernel
theorem dX3_odds_31 : decode cX3_odds 31 = .ok (.getfield 24, 3) := by decide +kernel
theorem dX3_odds_34 : decode cX3_odds 34 = .ok (.getfield 113, 3) := by decide +kernel
theorem dX3_odds_37 : decode cX3_odds 37 = .ok (.invokevirtual 197, 3) := by decide +kernel
theorem dX3_odds_40 : decode cX3_odds 40 = .ok (.lconst 0, 1) := by decide +kernel
theorem dX3_odds_41 : decode cX3_odds 41 = .ok (.lstore 4, 2) := by decide +kernel
theorem dX3_odds_43 : decode cX3_odds 43 = .ok (.iconst 0, 1) := by decide +kernel
theorem dX3_odds_44 : decode cX3_odds 44 = .ok (.istore 6, 2) := by decide +kernel
theorem dX3_odds_46 : decode cX3_odds 46 = .ok (.iload 6, 2) := by decide +kernel
theorem dX3_odds_48 : decode cX3_odds 48 = .ok (.iconst 1, 1) := by decide +kernel
theorem dX3_odds_49 : decode cX3_odds 49 = .ok (.aload_n 0, 1) := by decide +kernel
theorem dX3_odds_50 : decode cX3_odds 50 = .ok (.getfield 24, 3) := by decide +kernel
theorem dX3_odds_53 : decode cX3_odds 53 = .ok (.getfield 113, 3) := by decide +kernel
theorem dX3_odds_56 : decode cX3_odds 56 = .ok (.getfield 116, 3) := by decide +kernel
theorem dX3_odds_59 : decode cX3_odds 59 = .ok (.ishl, 1) := by decide +kernel
theorem dX3_odds_60 : decode cX3_odds 60 = .ok (.if_icmp .ge 38, 3) := by decide +kernel
theorem dX3_odds_63 : decode cX3_odds 63 = .ok (.aload_n 0, 1) := by decide +kernel
theorem dX3_odds_64 : decode cX3_odds 64 = .ok (.getfield 24, 3) := by decide +kernel
theorem dX3_odds_67 : decode cX3_odds 67 = .ok (.getfield 113, 3) := by decide +kernel
theorem dX3_odds_70 : decode cX3_odds 70 = .ok (.iload 6, 2) := by decide +kernel
theorem dX3_odds_72 : decode cX3_odds 72 = .ok (.iload_n 1, 1) := by decide +kernel
theorem dX3_odds_73 : decode cX3_odds 73 = .ok (.invokevirtual 256, 3) := by decide +kernel
theorem dX3_odds_76 : decode cX3_odds 76 = .ok (.iload_n 2, 1) := by decide +kernel
theorem dX3_odds_77 : decode cX3_odds 77 = .ok (.if_icmp .lt 15, 3) := by decide +kernel
theorem dX3_odds_80 : decode cX3_odds 80 = .ok (.lload 4, 2) := by decide +kernel
theorem dX3_odds_82 : decode cX3_odds 82 = .ok (.aload_n 0, 1) := by decide +kernel
theorem dX3_odds_83 : decode cX3_odds 83 = .ok (.iload 6, 2) := by decide +kernel
theorem dX3_odds_85 : decode cX3_odds 85 = .ok (.iload_n 3, 1) := by decide +kernel
theorem dX3_odds_86 : decode cX3_odds 86 = .ok (.invokevirtual 259, 3) := by decide +kernel
theorem dX3_odds_89 : decode cX3_odds 89 = .ok (.ladd, 1) := by decide +kernel
theorem dX3_odds_90 : decode cX3_odds 90 = .ok (.lstore 4, 2) := by decide +kernel
theorem dX3_odds_92 : decode cX3_odds 92 = .ok (.iinc 6 1, 3) := by decide +kernel
theorem dX3_odds_95 : decode cX3_odds 95 = .ok (.goto (-49), 3) := by decide +kernel
theorem dX3_odds_98 : decode cX3_odds 98 = .ok (.aload_n 0, 1) := by decide +kernel
theorem dX3_odds_99 : decode cX3_odds 99 = .ok (.lload 4, 2) := by decide +kernel
theorem dX3_odds_101 : decode cX3_odds 101 = .ok (.invokevirtual 263, 3) := by decide +kernel
theorem dX3_odds_104 : decode cX3_odds 104 = .ok (.iconst 1, 1) := by decide +kernel
theorem dX3_odds_105 : decode cX3_odds 105 = .ok (.ireturn, 1) := by decide +kernel
theorem dX3_mid_0 : decode cX3_mid 0 = .ok (.iload_n 1, 1) := by decide +kernel
theorem dX3_mid_1 : decode cX3_mid 1 = .ok (.ifCond .lt 9, 3) := by decide +kernel
theorem dX3_mid_4 : decode cX3_mid 4 = .ok (.iload_n 1, 1) := by decide +kernel
theorem dX3_mid_5 : decode cX3_mid 5 = .ok (.bipush 12, 2) := by decide +kernel
theorem dX3_mid_7 : decode cX3_mid 7 = .ok (.if_icmp .le 5, 3) := by decide +kernel
theorem dX3_mid_10 : decode cX3_mid 10 = .ok (.iconst (-1), 1) := by decide +kernel
theorem dX3_mid_11 : decode cX3_mid 11 = .ok (.ireturn, 1) := by decide +kernel
theorem dX3_mid_12 : decode cX3_mid 12 = .ok (.aload_n 0, 1) := by decide +kernel
theorem dX3_mid_13 : decode cX3_mid 13 = .ok (.invokevirtual 150, 3) := by decide +kernel
theorem dX3_mid_16 : decode cX3_mid 16 = .ok (.ifCond .eq 6, 3) := by decide +kernel
theorem dX3_mid_19 : decode cX3_mid 19 = .ok (.bipush (-4), 2) := by decide +kernel
theorem dX3_mid_21 : decode cX3_mid 21 = .ok (.ireturn, 1) := by decide +kernel
theorem dX3_mid_22 : decode cX3_mid 22 = .ok (.aload_n 0, 1) := by decide +kernel
theorem dX3_mid_23 : decode cX3_mid 23 = .ok (.getfield 24, 3) := by decide +kernel
theorem dX3_mid_26 : decode cX3_mid 26 = .ok (.getfield 113, 3) := by decide +kernel
theorem dX3_mid_29 : decode cX3_mid 29 = .ok (.invokevirtual 197, 3) := by decide +kernel
theorem dX3_mid_32 : decode cX3_mid 32 = .ok (.lconst 0, 1) := by decide +kernel
theorem dX3_mid_33 : decode cX3_mid 33 = .ok (.lstore_n 2, 1) := by decide +kernel
theorem dX3_mid_34 : decode cX3_mid 34 = .ok (.iconst 0, 1) := by decide +kernel
theorem dX3_mid_35 : decode cX3_mid 35 = .ok (.istore 4, 2) := by decide +kernel
theorem dX3_mid_37 : decode cX3_mid 37 = .ok (.iload 4, 2) := by decide +kernel
theorem dX3_mid_39 : decode cX3_mid 39 = .ok (.iconst 1, 1) := by decide +kernel
theorem dX3_mid_40 : decode cX3_mid 40 = .ok (.aload_n 0, 1) := by decide +kernel
theorem dX3_mid_41 : decode cX3_mid 41 = .ok (.getfield 24, 3) := by decide +kernel
theorem dX3_mid_44 : decode cX3_mid 44 = .ok (.getfield 113, 3) := by decide +kernel
theorem dX3_mid_47 : decode cX3_mid 47 = .ok (.getfield 116, 3) := by decide +kernel
theorem dX3_mid_50 : decode cX3_mid 50 = .ok (.ishl, 1) := by decide +kernel
theorem dX3_mid_51 : decode cX3_mid 51 = .ok (.if_icmp .ge 27, 3) := by decide +kernel
theorem dX3_mid_54 : decode cX3_mid 54 = .ok (.lload_n 2, 1) := by decide +kernel
theorem dX3_mid_55 : decode cX3_mid 55 = .ok (.aload_n 0, 1) := by decide +kernel
theorem dX3_mid_56 : decode cX3_mid 56 = .ok (.iload 4, 2) := by decide +kernel
theorem dX3_mid_58 : decode cX3_mid 58 = .ok (.iload_n 1, 1) := by decide +kernel
theorem dX3_mid_59 : decode cX3_mid 59 = .ok (.invokevirtual 259, 3) := by decide +kernel
theorem dX3_mid_62 : decode cX3_mid 62 = .ok (.aload_n 0, 1) := by decide +kernel
theorem dX3_mid_63 : decode cX3_mid 63 = .ok (.iload 4, 2) := by decide +kernel
theorem dX3_mid_65 : decode cX3_mid 65 = .ok (.invokevirtual 267, 3) := by decide +kernel
theorem dX3_mid_68 : decode cX3_mid 68 = .ok (.i2l, 1) := by decide +kernel
theorem dX3_mid_69 : decode cX3_mid 69 = .ok (.lmul, 1) := by decide +kernel
theorem dX3_mid_70 : decode cX3_mid 70 = .ok (.ladd, 1) := by decide +kernel
theorem dX3_mid_71 : decode cX3_mid 71 = .ok (.lstore_n 2, 1) := by decide +kernel
theorem dX3_mid_72 : decode cX3_mid 72 = .ok (.iinc 4 1, 3) := by decide +kernel
theorem dX3_mid_75 : decode cX3_mid 75 = .ok (.goto (-38), 3) := by decide +kernel
theorem dX3_mid_78 : decode cX3_mid 78 = .ok (.aload_n 0, 1) := by decide +kernel
theorem dX3_mid_79 : decode cX3_mid 79 = .ok (.lload_n 2, 1) := by decide +kernel
theorem dX3_mid_80 : decode cX3_mid 80 = .ok (.invokevirtual 263, 3) := by decide +kernel
theorem dX3_mid_83 : decode cX3_mid 83 = .ok (.iconst 1, 1) := by decide +kernel
theorem dX3_mid_84 : decode cX3_mid 84 = .ok (.ireturn, 1) := by decide +kernel
theorem dX3_lots_0 : decode cX3_lots 0 = .ok (.iload_n 1, 1) := by decide +kernel
theorem dX3_lots_1 : decode cX3_lots 1 = .ok (.iconst 1, 1) := by decide +kernel
theorem dX3_lots_2 : decode cX3_lots 2 = .ok (.if_icmp .lt 21, 3) := by decide +kernel
theorem dX3_lots_5 : decode cX3_lots 5 = .ok (.iload_n 1, 1) := by decide +kernel
theorem dX3_lots_6 : decode cX3_lots 6 = .ok (.bipush 20, 2) := by decide +kernel
theorem dX3_lots_8 : decode cX3_lots 8 = .ok (.if_icmp .gt 15, 3) := by decide +kernel
theorem dX3_lots_11 : decode cX3_lots 11 = .ok (.iload_n 2, 1) := by decide +kernel
theorem dX3_lots_12 : decode cX3_lots 12 = .ok (.iconst 1, 1) := by decide +kernel
theorem dX3_lots_13 : decode cX3_lots 13 = .ok (.if_icmp .lt 10, 3) := by decide +kernel
theorem dX3_lots_16 : decode cX3_lots 16 = .ok (.iload_n 2, 1) := by decide +kernel
theorem dX3_lots_17 : decode cX3_lots 17 = .ok (.ldc_w 270, 3) := by decide +kernel
theorem dX3_lots_20 : decode cX3_lots 20 = .ok (.if_icmp .lt 5, 3) := by decide +kernel
theorem dX3_lots_23 : decode cX3_lots 23 = .ok (.iconst (-1), 1) := by decide +kernel
theorem dX3_lots_24 : decode cX3_lots 24 = .ok (.ireturn, 1) := by decide +kernel
theorem dX3_lots_25 : decode cX3_lots 25 = .ok (.aload_n 0, 1) := by decide +kernel
theorem dX3_lots_26 : decode cX3_lots 26 = .ok (.invokevirtual 150, 3) := by decide +kernel
theorem dX3_lots_29 : decode cX3_lots 29 = .ok (.ifCond .eq 6, 3) := by decide +kernel
theorem dX3_lots_32 : decode cX3_lots 32 = .ok (.bipush (-4), 2) := by decide +kernel
theorem dX3_lots_34 : decode cX3_lots 34 = .ok (.ireturn, 1) := by decide +kernel
theorem dX3_lots_35 : decode cX3_lots 35 = .ok (.aload_n 0, 1) := by decide +kernel
theorem dX3_lots_36 : decode cX3_lots 36 = .ok (.getfield 24, 3) := by decide +kernel
theorem dX3_lots_39 : decode cX3_lots 39 = .ok (.iload_n 1, 1) := by decide +kernel
theorem dX3_lots_40 : decode cX3_lots 40 = .ok (.invokevirtual 157, 3) := by decide +kernel
theorem dX3_lots_43 : decode cX3_lots 43 = .ok (.ifCond .eq 6, 3) := by decide +kernel
theorem dX3_lots_46 : decode cX3_lots 46 = .ok (.bipush (-2), 2) := by decide +kernel
theorem dX3_lots_48 : decode cX3_lots 48 = .ok (.ireturn, 1) := by decide +kernel
theorem dX3_lots_49 : decode cX3_lots 49 = .ok (.iload_n 2, 1) := by decide +kernel
theorem dX3_lots_50 : decode cX3_lots 50 = .ok (.i2l, 1) := by decide +kernel
theorem dX3_lots_51 : decode cX3_lots 51 = .ok (.lstore_n 3, 1) := by decide +kernel
theorem dX3_lots_52 : decode cX3_lots 52 = .ok (.iconst 0, 1) := by decide +kernel
theorem dX3_lots_53 : decode cX3_lots 53 = .ok (.istore 5, 2) := by decide +kernel
theorem dX3_lots_55 : decode cX3_lots 55 = .ok (.iload 5, 2) := by decide +kernel
theorem dX3_lots_57 : decode cX3_lots 57 = .ok (.iload_n 1, 1) := by decide +kernel
theorem dX3_lots_58 : decode cX3_lots 58 = .ok (.if_icmp .ge 32, 3) := by decide +kernel
theorem dX3_lots_61 : decode cX3_lots 61 = .ok (.lload_n 3, 1) := by decide +kernel
theorem dX3_lots_62 : decode cX3_lots 62 = .ok (.ldc2_w 271, 3) := by decide +kernel
theorem dX3_lots_65 : decode cX3_lots 65 = .ok (.lmul, 1) := by decide +kernel
theorem dX3_lots_66 : decode cX3_lots 66 = .ok (.ldc2_w 273, 3) := by decide +kernel
theorem dX3_lots_69 : decode cX3_lots 69 = .ok (.lrem, 1) := by decide +kernel
theorem dX3_lots_70 : decode cX3_lots 70 = .ok (.lstore_n 3, 1) := by decide +kernel
theorem dX3_lots_71 : decode cX3_lots 71 = .ok (.aload_n 0, 1) := by decide +kernel
theorem dX3_lots_72 : decode cX3_lots 72 = .ok (.getfield 24, 3) := by decide +kernel
theorem dX3_lots_75 : decode cX3_lots 75 = .ok (.aload_n 0, 1) := by decide +kernel
theorem dX3_lots_76 : decode cX3_lots 76 = .ok (.lload_n 3, 1) := by decide +kernel
theorem dX3_lots_77 : decode cX3_lots 77 = .ok (.l2i, 1) := by decide +kernel
theorem dX3_lots_78 : decode cX3_lots 78 = .ok (.invokevirtual 275, 3) := by decide +kernel
theorem dX3_lots_81 : decode cX3_lots 81 = .ok (.invokevirtual 163, 3) := by decide +kernel
theorem dX3_lots_84 : decode cX3_lots 84 = .ok (.iinc 5 1, 3) := by decide +kernel
theorem dX3_lots_87 : decode cX3_lots 87 = .ok (.goto (-32), 3) := by decide +kernel
theorem dX3_lots_90 : decode cX3_lots 90 = .ok (.aload_n 0, 1) := by decide +kernel
theorem dX3_lots_91 : decode cX3_lots 91 = .ok (.getfield 24, 3) := by decide +kernel
theorem dX3_lots_94 : decode cX3_lots 94 = .ok (.getfield 113, 3) := by decide +kernel
theorem dX3_lots_97 : decode cX3_lots 97 = .ok (.invokevirtual 278, 3) := by decide +kernel
theorem dX3_lots_100 : decode cX3_lots 100 = .ok (.ireturn, 1) := by decide +kernel
theorem dX3_asked_0 : decode cX3_asked 0 = .ok (.aload_n 0, 1) := by decide +kernel
theorem dX3_asked_1 : decode cX3_asked 1 = .ok (.getfield 49, 3) := by decide +kernel
theorem dX3_asked_4 : decode cX3_asked 4 = .ok (.ireturn, 1) := by decide +kernel
theorem dX3_upper_0 : decode cX3_upper 0 = .ok (.aload_n 0, 1) := by decide +kernel
theorem dX3_upper_1 : decode cX3_upper 1 = .ok (.getfield 52, 3) := by decide +kernel
theorem dX3_upper_4 : decode cX3_upper 4 = .ok (.lreturn, 1) := by decide +kernel
theorem dX3_lower_0 : decode cX3_lower 0 = .ok (.aload_n 0, 1) := by decide +kernel
theorem dX3_lower_1 : decode cX3_lower 1 = .ok (.getfield 56, 3) := by decide +kernel
theorem dX3_lower_4 : decode cX3_lower 4 = .ok (.lreturn, 1) := by decide +kernel
theorem dX3_count_0 : decode cX3_count 0 = .ok (.iload_n 1, 1) := by decide +kernel
theorem dX3_count_1 : decode cX3_count 1 = .ok (.ifCond .lt 9, 3) := by decide +kernel
theorem dX3_count_4 : decode cX3_count 4 = .ok (.iload_n 1, 1) := by decide +kernel
theorem dX3_count_5 : decode cX3_count 5 = .ok (.bipush 10, 2) := by decide +kernel
theorem dX3_count_7 : decode cX3_count 7 = .ok (.if_icmp .le 5, 3) := by decide +kernel
theorem dX3_count_10 : decode cX3_count 10 = .ok (.iconst (-1), 1) := by decide +kernel
theorem dX3_count_11 : decode cX3_count 11 = .ok (.ireturn, 1) := by decide +kernel
theorem dX3_count_12 : decode cX3_count 12 = .ok (.aload_n 0, 1) := by decide +kernel
theorem dX3_count_13 : decode cX3_count 13 = .ok (.iload_n 1, 1) := by decide +kernel
theorem dX3_count_14 : decode cX3_count 14 = .ok (.invokevirtual 282, 3) := by decide +kernel
theorem dX3_count_17 : decode cX3_count 17 = .ok (.ireturn, 1) := by decide +kernel
theorem dX3_finding_0 : decode cX3_finding 0 = .ok (.aload_n 0, 1) := by decide +kernel
theorem dX3_finding_1 : decode cX3_finding 1 = .ok (.getfield 45, 3) := by decide +kernel
theorem dX3_finding_4 : decode cX3_finding 4 = .ok (.ireturn, 1) := by decide +kernel
theorem dX3_findings_0 : decode cX3_findings 0 = .ok (.iload_n 1, 1) := by decide +kernel
theorem dX3_findings_1 : decode cX3_findings 1 = .ok (.iconst 1, 1) := by decide +kernel
theorem dX3_findings_2 : decode cX3_findings 2 = .ok (.if_icmp .lt 8, 3) := by decide +kernel
theorem dX3_findings_5 : decode cX3_findings 5 = .ok (.iload_n 1, 1) := by decide +kernel
theorem dX3_findings_6 : decode cX3_findings 6 = .ok (.iconst 5, 1) := by decide +kernel
theorem dX3_findings_7 : decode cX3_findings 7 = .ok (.if_icmp .le 5, 3) := by decide +kernel
theorem dX3_findings_10 : decode cX3_findings 10 = .ok (.iconst (-1), 1) := by decide +kernel
theorem dX3_findings_11 : decode cX3_findings 11 = .ok (.ireturn, 1) := by decide +kernel
theorem dX3_findings_12 : decode cX3_findings 12 = .ok (.aload_n 0, 1) := by decide +kernel
theorem dX3_findings_13 : decode cX3_findings 13 = .ok (.getfield 42, 3) := by decide +kernel
theorem dX3_findings_16 : decode cX3_findings 16 = .ok (.iload_n 1, 1) := by decide +kernel
theorem dX3_findings_17 : decode cX3_findings 17 = .ok (.iaload, 1) := by decide +kernel
theorem dX3_findings_18 : decode cX3_findings 18 = .ok (.ireturn, 1) := by decide +kernel
theorem dX3_digest_0 : decode cX3_digest 0 = .ok (.ldc2_w 285, 3) := by decide +kernel
theorem dX3_digest_3 : decode cX3_digest 3 = .ok (.lstore_n 1, 1) := by decide +kernel
theorem dX3_digest_4 : decode cX3_digest 4 = .ok (.iconst 0, 1) := by decide +kernel
theorem dX3_digest_5 : decode cX3_digest 5 = .ok (.istore_n 3, 1) := by decide +kernel
theorem dX3_digest_6 : decode cX3_digest 6 = .ok (.iload_n 3, 1) := by decide +kernel
theorem dX3_digest_7 : decode cX3_digest 7 = .ok (.bipush 10, 2) := by decide +kernel
theorem dX3_digest_9 : decode cX3_digest 9 = .ok (.if_icmp .gt 22, 3) := by decide +kernel
theorem dX3_digest_12 : decode cX3_digest 12 = .ok (.ldc2_w 287, 3) := by decide +kernel
theorem dX3_digest_15 : decode cX3_digest 15 = .ok (.lload_n 1, 1) := by decide +kernel
theorem dX3_digest_16 : decode cX3_digest 16 = .ok (.lmul, 1) := by decide +kernel
theorem dX3_digest_17 : decode cX3_digest 17 = .ok (.aload_n 0, 1) := by decide +kernel
theorem dX3_digest_18 : decode cX3_digest 18 = .ok (.iload_n 3, 1) := by decide +kernel
theorem dX3_digest_19 : decode cX3_digest 19 = .ok (.invokevirtual 282, 3) := by decide +kernel
theorem dX3_digest_22 : decode cX3_digest 22 = .ok (.i2l, 1) := by decide +kernel
theorem dX3_digest_23 : decode cX3_digest 23 = .ok (.ladd, 1) := by decide +kernel
theorem dX3_digest_24 : decode cX3_digest 24 = .ok (.lstore_n 1, 1) := by decide +kernel
theorem dX3_digest_25 : decode cX3_digest 25 = .ok (.iinc 3 1, 3) := by decide +kernel
theorem dX3_digest_28 : decode cX3_digest 28 = .ok (.goto (-22), 3) := by decide +kernel
theorem dX3_digest_31 : decode cX3_digest 31 = .ok (.iconst 0, 1) := by decide +kernel
theorem dX3_digest_32 : decode cX3_digest 32 = .ok (.istore_n 3, 1) := by decide +kernel
theorem dX3_digest_33 : decode cX3_digest 33 = .ok (.iload_n 3, 1) := by decide +kernel
theorem dX3_digest_34 : decode cX3_digest 34 = .ok (.aload_n 0, 1) := by decide +kernel
theorem dX3_digest_35 : decode cX3_digest 35 = .ok (.getfield 24, 3) := by decide +kernel
theorem dX3_digest_38 : decode cX3_digest 38 = .ok (.getfield 113, 3) := by decide +kernel
theorem dX3_digest_41 : decode cX3_digest 41 = .ok (.getfield 116, 3) := by decide +kernel
theorem dX3_digest_44 : decode cX3_digest 44 = .ok (.if_icmp .ge 40, 3) := by decide +kernel
theorem dX3_digest_47 : decode cX3_digest 47 = .ok (.iconst 0, 1) := by decide +kernel
theorem dX3_digest_48 : decode cX3_digest 48 = .ok (.istore 4, 2) := by decide +kernel
theorem dX3_digest_50 : decode cX3_digest 50 = .ok (.iload 4, 2) := by decide +kernel
theorem dX3_digest_52 : decode cX3_digest 52 = .ok (.bipush 6, 2) := by decide +kernel
theorem dX3_digest_54 : decode cX3_digest 54 = .ok (.if_icmp .gt 24, 3) := by decide +kernel
theorem dX3_digest_57 : decode cX3_digest 57 = .ok (.ldc2_w 287, 3) := by decide +kernel
theorem dX3_digest_60 : decode cX3_digest 60 = .ok (.lload_n 1, 1) := by decide +kernel
theorem dX3_digest_61 : decode cX3_digest 61 = .ok (.lmul, 1) := by decide +kernel
theorem dX3_digest_62 : decode cX3_digest 62 = .ok (.aload_n 0, 1) := by decide +kernel
theorem dX3_digest_63 : decode cX3_digest 63 = .ok (.iload_n 3, 1) := by decide +kernel
theorem dX3_digest_64 : decode cX3_digest 64 = .ok (.iload 4, 2) := by decide +kernel
theorem dX3_digest_66 : decode cX3_digest 66 = .ok (.invokevirtual 122, 3) := by decide +kernel
theorem dX3_digest_69 : decode cX3_digest 69 = .ok (.i2l, 1) := by decide +kernel
theorem dX3_digest_70 : decode cX3_digest 70 = .ok (.ladd, 1) := by decide +kernel
theorem dX3_digest_71 : decode cX3_digest 71 = .ok (.lstore_n 1, 1) := by decide +kernel
theorem dX3_digest_72 : decode cX3_digest 72 = .ok (.iinc 4 1, 3) := by decide +kernel
theorem dX3_digest_75 : decode cX3_digest 75 = .ok (.goto (-25), 3) := by decide +kernel
theorem dX3_digest_78 : decode cX3_digest 78 = .ok (.iinc 3 1, 3) := by decide +kernel
theorem dX3_digest_81 : decode cX3_digest 81 = .ok (.goto (-48), 3) := by decide +kernel
theorem dX3_digest_84 : decode cX3_digest 84 = .ok (.iconst 0, 1) := by decide +kernel
theorem dX3_digest_85 : decode cX3_digest 85 = .ok (.istore_n 3, 1) := by decide +kernel
theorem dX3_digest_86 : decode cX3_digest 86 = .ok (.iload_n 3, 1) := by decide +kernel
theorem dX3_digest_87 : decode cX3_digest 87 = .ok (.iconst 3, 1) := by decide +kernel
theorem dX3_digest_88 : decode cX3_digest 88 = .ok (.if_icmp .ge 26, 3) := by decide +kernel
theorem dX3_digest_91 : decode cX3_digest 91 = .ok (.ldc2_w 287, 3) := by decide +kernel
theorem dX3_digest_94 : decode cX3_digest 94 = .ok (.lload_n 1, 1) := by decide +kernel
theorem dX3_digest_95 : decode cX3_digest 95 = .ok (.lmul, 1) := by decide +kernel
theorem dX3_digest_96 : decode cX3_digest 96 = .ok (.aload_n 0, 1) := by decide +kernel
theorem dX3_digest_97 : decode cX3_digest 97 = .ok (.getfield 24, 3) := by decide +kernel
theorem dX3_digest_100 : decode cX3_digest 100 = .ok (.getfield 191, 3) := by decide +kernel
theorem dX3_digest_103 : decode cX3_digest 103 = .ok (.iload_n 3, 1) := by decide +kernel
theorem dX3_digest_104 : decode cX3_digest 104 = .ok (.iaload, 1) := by decide +kernel
theorem dX3_digest_105 : decode cX3_digest 105 = .ok (.i2l, 1) := by decide +kernel
theorem dX3_digest_106 : decode cX3_digest 106 = .ok (.ladd, 1) := by decide +kernel
theorem dX3_digest_107 : decode cX3_digest 107 = .ok (.lstore_n 1, 1) := by decide +kernel
theorem dX3_digest_108 : decode cX3_digest 108 = .ok (.iinc 3 1, 3) := by decide +kernel
theorem dX3_digest_111 : decode cX3_digest 111 = .ok (.goto (-25), 3) := by decide +kernel
theorem dX3_digest_114 : decode cX3_digest 114 = .ok (.aload_n 0, 1) := by decide +kernel
theorem dX3_digest_115 : decode cX3_digest 115 = .ok (.getfield 18, 3) := by decide +kernel
theorem dX3_digest_118 : decode cX3_digest 118 = .ok (.aload_n 0, 1) := by decide +kernel
theorem dX3_digest_119 : decode cX3_digest 119 = .ok (.getfield 14, 3) := by decide +kernel
theorem dX3_digest_122 : decode cX3_digest 122 = .ok (.lload_n 1, 1) := by decide +kernel
theorem dX3_digest_123 : decode cX3_digest 123 = .ok (.invokevirtual 289, 3) := by decide +kernel
theorem dX3_digest_126 : decode cX3_digest 126 = .ok (.invokevirtual 289, 3) := by decide +kernel
theorem dX3_digest_129 : decode cX3_digest 129 = .ok (.lreturn, 1) := by decide +kernel
theorem dX3_isRow_0 : decode cX3_isRow 0 = .ok (.iload_n 0, 1) := by decide +kernel
theorem dX3_isRow_1 : decode cX3_isRow 1 = .ok (.ifCond .lt 13, 3) := by decide +kernel
theorem dX3_isRow_4 : decode cX3_isRow 4 = .ok (.iload_n 0, 1) := by decide +kernel
theorem dX3_isRow_5 : decode cX3_isRow 5 = .ok (.bipush 6, 2) := by decide +kernel
theorem dX3_isRow_7 : decode cX3_isRow 7 = .ok (.if_icmp .ge 7, 3) := by decide +kernel
theorem dX3_isRow_10 : decode cX3_isRow 10 = .ok (.iconst 1, 1) := by decide +kernel
theorem dX3_isRow_11 : decode cX3_isRow 11 = .ok (.goto 4, 3) := by decide +kernel
theorem dX3_isRow_14 : decode cX3_isRow 14 = .ok (.iconst 0, 1) := by decide +kernel
theorem dX3_isRow_15 : decode cX3_isRow 15 = .ok (.ireturn, 1) := by decide +kernel
theorem dX3_isText_0 : decode cX3_isText 0 = .ok (.iload_n 0, 1) := by decide +kernel
theorem dX3_isText_1 : decode cX3_isText 1 = .ok (.ifCond .lt 12, 3) := by decide +kernel
theorem dX3_isText_4 : decode cX3_isText 4 = .ok (.iload_n 0, 1) := by decide +kernel
theorem dX3_isText_5 : decode cX3_isText 5 = .ok (.iconst 4, 1) := by decide +kernel
theorem dX3_isText_6 : decode cX3_isText 6 = .ok (.if_icmp .ge 7, 3) := by decide +kernel
theorem dX3_isText_9 : decode cX3_isText 9 = .ok (.iconst 1, 1) := by decide +kernel
theorem dX3_isText_10 : decode cX3_isText 10 = .ok (.goto 4, 3) := by decide +kernel
theorem dX3_isText_13 : decode cX3_isText 13 = .ok (.iconst 0, 1) := by decide +kernel
theorem dX3_isText_14 : decode cX3_isText 14 = .ok (.ireturn, 1) := by decide +kernel
theorem dX3_isKept_0 : decode cX3_isKept 0 = .ok (.iload_n 0, 1) := by decide +kernel
theorem dX3_isKept_1 : decode cX3_isKept 1 = .ok (.ifCond .lt 12, 3) := by decide +kernel
theorem dX3_isKept_4 : decode cX3_isKept 4 = .ok (.iload_n 0, 1) := by decide +kernel
theorem dX3_isKept_5 : decode cX3_isKept 5 = .ok (.iconst 3, 1) := by decide +kernel
theorem dX3_isKept_6 : decode cX3_isKept 6 = .ok (.if_icmp .ge 7, 3) := by decide +kernel
theorem dX3_isKept_9 : decode cX3_isKept 9 = .ok (.iconst 1, 1) := by decide +kernel
theorem dX3_isKept_10 : decode cX3_isKept 10 = .ok (.goto 4, 3) := by decide +kernel
theorem dX3_isKept_13 : decode cX3_isKept 13 = .ok (.iconst 0, 1) := by decide +kernel
theorem dX3_isKept_14 : decode cX3_isKept 14 = .ok (.ireturn, 1) := by decide +kernel
theorem dX3_isKin_0 : decode cX3_isKin 0 = .ok (.iload_n 1, 1) := by decide +kernel
theorem dX3_isKin_1 : decode cX3_isKin 1 = .ok (.ifCond .lt 21, 3) := by decide +kernel
theorem dX3_isKin_4 : decode cX3_isKin 4 = .ok (.iload_n 1, 1) := by decide +kernel
theorem dX3_isKin_5 : decode cX3_isKin 5 = .ok (.aload_n 0, 1) := by decide +kernel
theorem dX3_isKin_6 : decode cX3_isKin 6 = .ok (.getfield 24, 3) := by decide +kernel
theorem dX3_isKin_9 : decode cX3_isKin 9 = .ok (.getfield 113, 3) := by decide +kernel
theorem dX3_isKin_12 : decode cX3_isKin 12 = .ok (.getfield 116, 3) := by decide +kernel
theorem dX3_isKin_15 : decode cX3_isKin 15 = .ok (.if_icmp .ge 7, 3) := by decide +kernel
theorem dX3_isKin_18 : decode cX3_isKin 18 = .ok (.iconst 1, 1) := by decide +kernel
theorem dX3_isKin_19 : decode cX3_isKin 19 = .ok (.goto 4, 3) := by decide +kernel
theorem dX3_isKin_22 : decode cX3_isKin 22 = .ok (.iconst 0, 1) := by decide +kernel
theorem dX3_isKin_23 : decode cX3_isKin 23 = .ok (.ireturn, 1) := by decide +kernel
theorem dX3_areTwo_0 : decode cX3_areTwo 0 = .ok (.aload_n 0, 1) := by decide +kernel
theorem dX3_areTwo_1 : decode cX3_areTwo 1 = .ok (.iload_n 1, 1) := by decide +kernel
theorem dX3_areTwo_2 : decode cX3_areTwo 2 = .ok (.invokevirtual 119, 3) := by decide +kernel
theorem dX3_areTwo_5 : decode cX3_areTwo 5 = .ok (.ifCond .eq 20, 3) := by decide +kernel
theorem dX3_areTwo_8 : decode cX3_areTwo 8 = .ok (.aload_n 0, 1) := by decide +kernel
theorem dX3_areTwo_9 : decode cX3_areTwo 9 = .ok (.iload_n 2, 1) := by decide +kernel
theorem dX3_areTwo_10 : decode cX3_areTwo 10 = .ok (.invokevirtual 119, 3) := by decide +kernel
theorem dX3_areTwo_13 : decode cX3_areTwo 13 = .ok (.ifCond .eq 12, 3) := by decide +kernel
theorem dX3_areTwo_16 : decode cX3_areTwo 16 = .ok (.iload_n 1, 1) := by decide +kernel
theorem dX3_areTwo_17 : decode cX3_areTwo 17 = .ok (.iload_n 2, 1) := by decide +kernel
theorem dX3_areTwo_18 : decode cX3_areTwo 18 = .ok (.if_icmp .eq 7, 3) := by decide +kernel
theorem dX3_areTwo_21 : decode cX3_areTwo 21 = .ok (.iconst 1, 1) := by decide +kernel
theorem dX3_areTwo_22 : decode cX3_areTwo 22 = .ok (.goto 4, 3) := by decide +kernel
theorem dX3_areTwo_25 : decode cX3_areTwo 25 = .ok (.iconst 0, 1) := by decide +kernel
theorem dX3_areTwo_26 : decode cX3_areTwo 26 = .ok (.ireturn, 1) := by decide +kernel
theorem dX3_noKin_0 : decode cX3_noKin 0 = .ok (.aload_n 0, 1) := by decide +kernel
theorem dX3_noKin_1 : decode cX3_noKin 1 = .ok (.getfield 24, 3) := by decide +kernel
theorem dX3_noKin_4 : decode cX3_noKin 4 = .ok (.getfield 113, 3) := by decide +kernel
theorem dX3_noKin_7 : decode cX3_noKin 7 = .ok (.getfield 116, 3) := by decide +kernel
theorem dX3_noKin_10 : decode cX3_noKin 10 = .ok (.ifCond .ne 7, 3) := by decide +kernel
theorem dX3_noKin_13 : decode cX3_noKin 13 = .ok (.iconst 1, 1) := by decide +kernel
theorem dX3_noKin_14 : decode cX3_noKin 14 = .ok (.goto 4, 3) := by decide +kernel
theorem dX3_noKin_17 : decode cX3_noKin 17 = .ok (.iconst 0, 1) := by decide +kernel
theorem dX3_noKin_18 : decode cX3_noKin 18 = .ok (.ireturn, 1) := by decide +kernel
theorem dX3_refuse_0 : decode cX3_refuse 0 = .ok (.aload_n 0, 1) := by decide +kernel
theorem dX3_refuse_1 : decode cX3_refuse 1 = .ok (.iload_n 1, 1) := by decide +kernel
theorem dX3_refuse_2 : decode cX3_refuse 2 = .ok (.putfield 45, 3) := by decide +kernel
theorem dX3_refuse_5 : decode cX3_refuse 5 = .ok (.aload_n 0, 1) := by decide +kernel
theorem dX3_refuse_6 : decode cX3_refuse 6 = .ok (.getfield 42, 3) := by decide +kernel
theorem dX3_refuse_9 : decode cX3_refuse 9 = .ok (.iload_n 1, 1) := by decide +kernel
theorem dX3_refuse_10 : decode cX3_refuse 10 = .ok (.dup2, 1) := by decide +kernel
theorem dX3_refuse_11 : decode cX3_refuse 11 = .ok (.iaload, 1) := by decide +kernel
theorem dX3_refuse_12 : decode cX3_refuse 12 = .ok (.iconst 1, 1) := by decide +kernel
theorem dX3_refuse_13 : decode cX3_refuse 13 = .ok (.iadd, 1) := by decide +kernel
theorem dX3_refuse_14 : decode cX3_refuse 14 = .ok (.iastore, 1) := by decide +kernel
theorem dX3_refuse_15 : decode cX3_refuse 15 = .ok (.bipush (-3), 2) := by decide +kernel
theorem dX3_refuse_17 : decode cX3_refuse 17 = .ok (.ireturn, 1) := by decide +kernel
theorem dX3_refusePlace_0 : decode cX3_refusePlace 0 = .ok (.iload_n 1, 1) := by decide +kernel
theorem dX3_refusePlace_1 : decode cX3_refusePlace 1 = .ok (.invokestatic 59, 3) := by decide +kernel
theorem dX3_refusePlace_4 : decode cX3_refusePlace 4 = .ok (.ifCond .ne 5, 3) := by decide +kernel
theorem dX3_refusePlace_7 : decode cX3_refusePlace 7 = .ok (.iconst (-1), 1) := by decide +kernel
theorem dX3_refusePlace_8 : decode cX3_refusePlace 8 = .ok (.ireturn, 1) := by decide +kernel
theorem dX3_refusePlace_9 : decode cX3_refusePlace 9 = .ok (.aload_n 0, 1) := by decide +kernel
theorem dX3_refusePlace_10 : decode cX3_refusePlace 10 = .ok (.getfield 14, 3) := by decide +kernel
theorem dX3_refusePlace_13 : decode cX3_refusePlace 13 = .ok (.iload_n 1, 1) := by decide +kernel
theorem dX3_refusePlace_14 : decode cX3_refusePlace 14 = .ok (.invokevirtual 82, 3) := by decide +kernel
theorem dX3_refusePlace_17 : decode cX3_refusePlace 17 = .ok (.ifCond .ne 9, 3) := by decide +kernel
theorem dX3_refusePlace_20 : decode cX3_refusePlace 20 = .ok (.aload_n 0, 1) := by decide +kernel
theorem dX3_refusePlace_21 : decode cX3_refusePlace 21 = .ok (.iconst 1, 1) := by decide +kernel
theorem dX3_refusePlace_22 : decode cX3_refusePlace 22 = .ok (.invokevirtual 63, 3) := by decide +kernel
theorem dX3_refusePlace_25 : decode cX3_refusePlace 25 = .ok (.ireturn, 1) := by decide +kernel
theorem dX3_refusePlace_26 : decode cX3_refusePlace 26 = .ok (.aload_n 0, 1) := by decide +kernel
theorem dX3_refusePlace_27 : decode cX3_refusePlace 27 = .ok (.getfield 14, 3) := by decide +kernel
theorem dX3_refusePlace_30 : decode cX3_refusePlace 30 = .ok (.iload_n 1, 1) := by decide +kernel
theorem dX3_refusePlace_31 : decode cX3_refusePlace 31 = .ok (.iload_n 2, 1) := by decide +kernel
theorem dX3_refusePlace_32 : decode cX3_refusePlace 32 = .ok (.iconst 1, 1) := by decide +kernel
theorem dX3_refusePlace_33 : decode cX3_refusePlace 33 = .ok (.invokevirtual 88, 3) := by decide +kernel
theorem dX3_refusePlace_36 : decode cX3_refusePlace 36 = .ok (.ifCond .eq 7, 3) := by decide +kernel
theorem dX3_refusePlace_39 : decode cX3_refusePlace 39 = .ok (.iconst 0, 1) := by decide +kernel
theorem dX3_refusePlace_40 : decode cX3_refusePlace 40 = .ok (.goto 8, 3) := by decide +kernel
theorem dX3_refusePlace_43 : decode cX3_refusePlace 43 = .ok (.aload_n 0, 1) := by decide +kernel
theorem dX3_refusePlace_44 : decode cX3_refusePlace 44 = .ok (.iconst 2, 1) := by decide +kernel
theorem dX3_refusePlace_45 : decode cX3_refusePlace 45 = .ok (.invokevirtual 63, 3) := by decide +kernel
theorem dX3_refusePlace_48 : decode cX3_refusePlace 48 = .ok (.ireturn, 1) := by decide +kernel
theorem dX3_refusePairs_0 : decode cX3_refusePairs 0 = .ok (.aload_n 0, 1) := by decide +kernel
theorem dX3_refusePairs_1 : decode cX3_refusePairs 1 = .ok (.iload_n 1, 1) := by decide +kernel
theorem dX3_refusePairs_2 : decode cX3_refusePairs 2 = .ok (.invokevirtual 119, 3) := by decide +kernel
theorem dX3_refusePairs_5 : decode cX3_refusePairs 5 = .ok (.ifCond .eq 10, 3) := by decide +kernel
theorem dX3_refusePairs_8 : decode cX3_refusePairs 8 = .ok (.iload_n 2, 1) := by decide +kernel
theorem dX3_refusePairs_9 : decode cX3_refusePairs 9 = .ok (.invokestatic 59, 3) := by decide +kernel
theorem dX3_refusePairs_12 : decode cX3_refusePairs 12 = .ok (.ifCond .ne 5, 3) := by decide +kernel
theorem dX3_refusePairs_15 : decode cX3_refusePairs 15 = .ok (.iconst (-1), 1) := by decide +kernel
theorem dX3_refusePairs_16 : decode cX3_refusePairs 16 = .ok (.ireturn, 1) := by decide +kernel
theorem dX3_refusePairs_17 : decode cX3_refusePairs 17 = .ok (.aload_n 0, 1) := by decide +kernel
theorem dX3_refusePairs_18 : decode cX3_refusePairs 18 = .ok (.getfield 14, 3) := by decide +kernel
theorem dX3_refusePairs_21 : decode cX3_refusePairs 21 = .ok (.iload_n 2, 1) := by decide +kernel
theorem dX3_refusePairs_22 : decode cX3_refusePairs 22 = .ok (.invokevirtual 82, 3) := by decide +kernel
theorem dX3_refusePairs_25 : decode cX3_refusePairs 25 = .ok (.ifCond .ne 9, 3) := by decide +kernel
theorem dX3_refusePairs_28 : decode cX3_refusePairs 28 = .ok (.aload_n 0, 1) := by decide +kernel
theorem dX3_refusePairs_29 : decode cX3_refusePairs 29 = .ok (.iconst 1, 1) := by decide +kernel
theorem dX3_refusePairs_30 : decode cX3_refusePairs 30 = .ok (.invokevirtual 63, 3) := by decide +kernel
theorem dX3_refusePairs_33 : decode cX3_refusePairs 33 = .ok (.ireturn, 1) := by decide +kernel
theorem dX3_refusePairs_34 : decode cX3_refusePairs 34 = .ok (.aload_n 0, 1) := by decide +kernel
theorem dX3_refusePairs_35 : decode cX3_refusePairs 35 = .ok (.getfield 14, 3) := by decide +kernel
theorem dX3_refusePairs_38 : decode cX3_refusePairs 38 = .ok (.getfield 85, 3) := by decide +kernel
theorem dX3_refusePairs_41 : decode cX3_refusePairs 41 = .ok (.iload_n 2, 1) := by decide +kernel
theorem dX3_refusePairs_42 : decode cX3_refusePairs 42 = .ok (.iaload, 1) := by decide +kernel
theorem dX3_refusePairs_43 : decode cX3_refusePairs 43 = .ok (.iconst 2, 1) := by decide +kernel
theorem dX3_refusePairs_44 : decode cX3_refusePairs 44 = .ok (.irem, 1) := by decide +kernel
theorem dX3_refusePairs_45 : decode cX3_refusePairs 45 = .ok (.ifCond .eq 9, 3) := by decide +kernel
theorem dX3_refusePairs_48 : decode cX3_refusePairs 48 = .ok (.aload_n 0, 1) := by decide +kernel
theorem dX3_refusePairs_49 : decode cX3_refusePairs 49 = .ok (.iconst 5, 1) := by decide +kernel
theorem dX3_refusePairs_50 : decode cX3_refusePairs 50 = .ok (.invokevirtual 63, 3) := by decide +kernel
theorem dX3_refusePairs_53 : decode cX3_refusePairs 53 = .ok (.ireturn, 1) := by decide +kernel
theorem dX3_refusePairs_54 : decode cX3_refusePairs 54 = .ok (.iconst 0, 1) := by decide +kernel
theorem dX3_refusePairs_55 : decode cX3_refusePairs 55 = .ok (.istore_n 3, 1) := by decide +kernel
theorem dX3_refusePairs_56 : decode cX3_refusePairs 56 = .ok (.iload_n 3, 1) := by decide +kernel
theorem dX3_refusePairs_57 : decode cX3_refusePairs 57 = .ok (.aload_n 0, 1) := by decide +kernel
theorem dX3_refusePairs_58 : decode cX3_refusePairs 58 = .ok (.getfield 14, 3) := by decide +kernel
theorem dX3_refusePairs_61 : decode cX3_refusePairs 61 = .ok (.getfield 85, 3) := by decide +kernel
theorem dX3_refusePairs_64 : decode cX3_refusePairs 64 = .ok (.iload_n 2, 1) := by decide +kernel
theorem dX3_refusePairs_65 : decode cX3_refusePairs 65 = .ok (.iaload, 1) := by decide +kernel
theorem dX3_refusePairs_66 : decode cX3_refusePairs 66 = .ok (.if_icmp .ge 51, 3) := by decide +kernel
theorem dX3_refusePairs_69 : decode cX3_refusePairs 69 = .ok (.aload_n 0, 1) := by decide +kernel
theorem dX3_refusePairs_70 : decode cX3_refusePairs 70 = .ok (.getfield 14, 3) := by decide +kernel
theorem dX3_refusePairs_73 : decode cX3_refusePairs 73 = .ok (.getfield 75, 3) := by decide +kernel
theorem dX3_refusePairs_76 : decode cX3_refusePairs 76 = .ok (.iload_n 2, 1) := by decide +kernel
theorem dX3_refusePairs_77 : decode cX3_refusePairs 77 = .ok (.aaload, 1) := by decide +kernel
theorem dX3_refusePairs_78 : decode cX3_refusePairs 78 = .ok (.iload_n 3, 1) := by decide +kernel
theorem dX3_refusePairs_79 : decode cX3_refusePairs 79 = .ok (.iaload, 1) := by decide +kernel
theorem dX3_refusePairs_80 : decode cX3_refusePairs 80 = .ok (.istore 4, 2) := by decide +kernel
theorem dX3_refusePairs_82 : decode cX3_refusePairs 82 = .ok (.iload 4, 2) := by decide +kernel
theorem dX3_refusePairs_84 : decode cX3_refusePairs 84 = .ok (.ifCond .lt 21, 3) := by decide +kernel
theorem dX3_refusePairs_87 : decode cX3_refusePairs 87 = .ok (.iload 4, 2) := by decide +kernel
theorem dX3_refusePairs_89 : decode cX3_refusePairs 89 = .ok (.iload_n 3, 1) := by decide +kernel
theorem dX3_refusePairs_90 : decode cX3_refusePairs 90 = .ok (.iconst 2, 1) := by decide +kernel
theorem dX3_refusePairs_91 : decode cX3_refusePairs 91 = .ok (.irem, 1) := by decide +kernel
theorem dX3_refusePairs_92 : decode cX3_refusePairs 92 = .ok (.ifCond .ne 8, 3) := by decide +kernel
theorem dX3_refusePairs_95 : decode cX3_refusePairs 95 = .ok (.bipush 99, 2) := by decide +kernel
theorem dX3_refusePairs_97 : decode cX3_refusePairs 97 = .ok (.goto 5, 3) := by decide +kernel
theorem dX3_refusePairs_100 : decode cX3_refusePairs 100 = .ok (.bipush 30, 2) := by decide +kernel
theorem dX3_refusePairs_102 : decode cX3_refusePairs 102 = .ok (.if_icmp .le 9, 3) := by decide +kernel
theorem dX3_refusePairs_105 : decode cX3_refusePairs 105 = .ok (.aload_n 0, 1) := by decide +kernel
theorem dX3_refusePairs_106 : decode cX3_refusePairs 106 = .ok (.iconst 3, 1) := by decide +kernel
theorem dX3_refusePairs_107 : decode cX3_refusePairs 107 = .ok (.invokevirtual 63, 3) := by decide +kernel
theorem dX3_refusePairs_110 : decode cX3_refusePairs 110 = .ok (.ireturn, 1) := by decide +kernel
theorem dX3_refusePairs_111 : decode cX3_refusePairs 111 = .ok (.iinc 3 1, 3) := by decide +kernel
theorem dX3_refusePairs_114 : decode cX3_refusePairs 114 = .ok (.goto (-58), 3) := by decide +kernel
theorem dX3_refusePairs_117 : decode cX3_refusePairs 117 = .ok (.iconst 0, 1) := by decide +kernel
theorem dX3_refusePairs_118 : decode cX3_refusePairs 118 = .ok (.ireturn, 1) := by decide +kernel
theorem dX3_tell_0 : decode cX3_tell 0 = .ok (.aload_n 0, 1) := by decide +kernel
theorem dX3_tell_1 : decode cX3_tell 1 = .ok (.iload_n 1, 1) := by decide +kernel
theorem dX3_tell_2 : decode cX3_tell 2 = .ok (.putfield 49, 3) := by decide +kernel
theorem dX3_tell_5 : decode cX3_tell 5 = .ok (.iload_n 2, 1) := by decide +kernel
theorem dX3_tell_6 : decode cX3_tell 6 = .ok (.ireturn, 1) := by decide +kernel
theorem dX3_tellPart_0 : decode cX3_tellPart 0 = .ok (.lconst 1, 1) := by decide +kernel
theorem dX3_tellPart_1 : decode cX3_tellPart 1 = .ok (.lstore_n 3, 1) := by decide +kernel
theorem dX3_tellPart_2 : decode cX3_tellPart 2 = .ok (.iconst 0, 1) := by decide +kernel
theorem dX3_tellPart_3 : decode cX3_tellPart 3 = .ok (.istore 5, 2) := by decide +kernel
theorem dX3_tellPart_5 : decode cX3_tellPart 5 = .ok (.iload 5, 2) := by decide +kernel
theorem dX3_tellPart_7 : decode cX3_tellPart 7 = .ok (.aload_n 0, 1) := by decide +kernel
theorem dX3_tellPart_8 : decode cX3_tellPart 8 = .ok (.getfield 24, 3) := by decide +kernel
theorem dX3_tellPart_11 : decode cX3_tellPart 11 = .ok (.getfield 113, 3) := by decide +kernel
theorem dX3_tellPart_14 : decode cX3_tellPart 14 = .ok (.getfield 116, 3) := by decide +kernel
theorem dX3_tellPart_17 : decode cX3_tellPart 17 = .ok (.if_icmp .ge 15, 3) := by decide +kernel
theorem dX3_tellPart_20 : decode cX3_tellPart 20 = .ok (.lload_n 3, 1) := by decide +kernel
theorem dX3_tellPart_21 : decode cX3_tellPart 21 = .ok (.ldc2_w 293, 3) := by decide +kernel
theorem dX3_tellPart_24 : decode cX3_tellPart 24 = .ok (.lmul, 1) := by decide +kernel
theorem dX3_tellPart_25 : decode cX3_tellPart 25 = .ok (.lstore_n 3, 1) := by decide +kernel
theorem dX3_tellPart_26 : decode cX3_tellPart 26 = .ok (.iinc 5 1, 3) := by decide +kernel
theorem dX3_tellPart_29 : decode cX3_tellPart 29 = .ok (.goto (-24), 3) := by decide +kernel
theorem dX3_tellPart_32 : decode cX3_tellPart 32 = .ok (.lload_n 3, 1) := by decide +kernel
theorem dX3_tellPart_33 : decode cX3_tellPart 33 = .ok (.lload_n 1, 1) := by decide +kernel
theorem dX3_tellPart_34 : decode cX3_tellPart 34 = .ok (.invokestatic 295, 3) := by decide +kernel
theorem dX3_tellPart_37 : decode cX3_tellPart 37 = .ok (.lstore 5, 2) := by decide +kernel
theorem dX3_tellPart_39 : decode cX3_tellPart 39 = .ok (.lload 5, 2) := by decide +kernel
theorem dX3_tellPart_41 : decode cX3_tellPart 41 = .ok (.lconst 0, 1) := by decide +kernel
theorem dX3_tellPart_42 : decode cX3_tellPart 42 = .ok (.lcmp, 1) := by decide +kernel
theorem dX3_tellPart_43 : decode cX3_tellPart 43 = .ok (.ifCond .gt 4, 3) := by decide +kernel
theorem dX3_tellPart_46 : decode cX3_tellPart 46 = .ok (.return_, 1) := by decide +kernel
theorem dX3_tellPart_47 : decode cX3_tellPart 47 = .ok (.aload_n 0, 1) := by decide +kernel
theorem dX3_tellPart_48 : decode cX3_tellPart 48 = .ok (.lload_n 1, 1) := by decide +kernel
theorem dX3_tellPart_49 : decode cX3_tellPart 49 = .ok (.lload 5, 2) := by decide +kernel
theorem dX3_tellPart_51 : decode cX3_tellPart 51 = .ok (.ldiv, 1) := by decide +kernel
theorem dX3_tellPart_52 : decode cX3_tellPart 52 = .ok (.putfield 52, 3) := by decide +kernel
theorem dX3_tellPart_55 : decode cX3_tellPart 55 = .ok (.aload_n 0, 1) := by decide +kernel
theorem dX3_tellPart_56 : decode cX3_tellPart 56 = .ok (.lload_n 3, 1) := by decide +kernel
theorem dX3_tellPart_57 : decode cX3_tellPart 57 = .ok (.lload 5, 2) := by decide +kernel
theorem dX3_tellPart_59 : decode cX3_tellPart 59 = .ok (.ldiv, 1) := by decide +kernel
theorem dX3_tellPart_60 : decode cX3_tellPart 60 = .ok (.putfield 56, 3) := by decide +kernel
theorem dX3_tellPart_63 : decode cX3_tellPart 63 = .ok (.return_, 1) := by decide +kernel
theorem dX3_commonDivisor_0 : decode cX3_commonDivisor 0 = .ok (.iconst 0, 1) := by decide +kernel
theorem dX3_commonDivisor_1 : decode cX3_commonDivisor 1 = .ok (.istore 4, 2) := by decide +kernel
theorem dX3_commonDivisor_3 : decode cX3_commonDivisor 3 = .ok (.iload 4, 2) := by decide +kernel
theorem dX3_commonDivisor_5 : decode cX3_commonDivisor 5 = .ok (.sipush 200, 3) := by decide +kernel
theorem dX3_commonDivisor_8 : decode cX3_commonDivisor 8 = .ok (.if_icmp .ge 25, 3) := by decide +kernel
theorem dX3_commonDivisor_11 : decode cX3_commonDivisor 11 = .ok (.lload_n 2, 1) := by decide +kernel
theorem dX3_commonDivisor_12 : decode cX3_commonDivisor 12 = .ok (.lconst 0, 1) := by decide +kernel
theorem dX3_commonDivisor_13 : decode cX3_commonDivisor 13 = .ok (.lcmp, 1) := by decide +kernel
theorem dX3_commonDivisor_14 : decode cX3_commonDivisor 14 = .ok (.ifCond .eq 19, 3) := by decide +kernel
theorem dX3_commonDivisor_17 : decode cX3_commonDivisor 17 = .ok (.lload_n 0, 1) := by decide +kernel
theorem dX3_commonDivisor_18 : decode cX3_commonDivisor 18 = .ok (.lload_n 2, 1) := by decide +kernel
theorem dX3_commonDivisor_19 : decode cX3_commonDivisor 19 = .ok (.lrem, 1) := by decide +kernel
theorem dX3_commonDivisor_20 : decode cX3_commonDivisor 20 = .ok (.lstore 5, 2) := by decide +kernel
theorem dX3_commonDivisor_22 : decode cX3_commonDivisor 22 = .ok (.lload_n 2, 1) := by decide +kernel
theorem dX3_commonDivisor_23 : decode cX3_commonDivisor 23 = .ok (.lstore_n 0, 1) := by decide +kernel
theorem dX3_commonDivisor_24 : decode cX3_commonDivisor 24 = .ok (.lload 5, 2) := by decide +kernel
theorem dX3_commonDivisor_26 : decode cX3_commonDivisor 26 = .ok (.lstore_n 2, 1) := by decide +kernel
theorem dX3_commonDivisor_27 : decode cX3_commonDivisor 27 = .ok (.iinc 4 1, 3) := by decide +kernel
theorem dX3_commonDivisor_30 : decode cX3_commonDivisor 30 = .ok (.goto (-27), 3) := by decide +kernel
theorem dX3_commonDivisor_33 : decode cX3_commonDivisor 33 = .ok (.lload_n 0, 1) := by decide +kernel
theorem dX3_commonDivisor_34 : decode cX3_commonDivisor 34 = .ok (.lreturn, 1) := by decide +kernel
theorem dX3_ofOne_0 : decode cX3_ofOne 0 = .ok (.aload_n 0, 1) := by decide +kernel
theorem dX3_ofOne_1 : decode cX3_ofOne 1 = .ok (.getfield 24, 3) := by decide +kernel
theorem dX3_ofOne_4 : decode cX3_ofOne 4 = .ok (.getfield 113, 3) := by decide +kernel
theorem dX3_ofOne_7 : decode cX3_ofOne 7 = .ok (.astore_n 3, 1) := by decide +kernel
theorem dX3_ofOne_8 : decode cX3_ofOne 8 = .ok (.aload_n 3, 1) := by decide +kernel
theorem dX3_ofOne_9 : decode cX3_ofOne 9 = .ok (.invokevirtual 197, 3) := by decide +kernel
theorem dX3_ofOne_12 : decode cX3_ofOne 12 = .ok (.iload_n 2, 1) := by decide +kernel
theorem dX3_ofOne_13 : decode cX3_ofOne 13 = .ok (.tableswitch 81 0 5 #[39, 46, 53, 60, 67, 74], 39) := by decide +kernel
theorem dX3_ofOne_52 : decode cX3_ofOne 52 = .ok (.aload_n 3, 1) := by decide +kernel
theorem dX3_ofOne_53 : decode cX3_ofOne 53 = .ok (.getfield 125, 3) := by decide +kernel
theorem dX3_ofOne_56 : decode cX3_ofOne 56 = .ok (.iload_n 1, 1) := by decide +kernel
theorem dX3_ofOne_57 : decode cX3_ofOne 57 = .ok (.iaload, 1) := by decide +kernel
theorem dX3_ofOne_58 : decode cX3_ofOne 58 = .ok (.ireturn, 1) := by decide +kernel
theorem dX3_ofOne_59 : decode cX3_ofOne 59 = .ok (.aload_n 3, 1) := by decide +kernel
theorem dX3_ofOne_60 : decode cX3_ofOne 60 = .ok (.getfield 143, 3) := by decide +kernel
theorem dX3_ofOne_63 : decode cX3_ofOne 63 = .ok (.iload_n 1, 1) := by decide +kernel
theorem dX3_ofOne_64 : decode cX3_ofOne 64 = .ok (.iaload, 1) := by decide +kernel
theorem dX3_ofOne_65 : decode cX3_ofOne 65 = .ok (.ireturn, 1) := by decide +kernel
theorem dX3_ofOne_66 : decode cX3_ofOne 66 = .ok (.aload_n 3, 1) := by decide +kernel
theorem dX3_ofOne_67 : decode cX3_ofOne 67 = .ok (.getfield 299, 3) := by decide +kernel
theorem dX3_ofOne_70 : decode cX3_ofOne 70 = .ok (.iload_n 1, 1) := by decide +kernel
theorem dX3_ofOne_71 : decode cX3_ofOne 71 = .ok (.iaload, 1) := by decide +kernel
theorem dX3_ofOne_72 : decode cX3_ofOne 72 = .ok (.ireturn, 1) := by decide +kernel
theorem dX3_ofOne_73 : decode cX3_ofOne 73 = .ok (.aload_n 3, 1) := by decide +kernel
theorem dX3_ofOne_74 : decode cX3_ofOne 74 = .ok (.getfield 176, 3) := by decide +kernel
theorem dX3_ofOne_77 : decode cX3_ofOne 77 = .ok (.iload_n 1, 1) := by decide +kernel
theorem dX3_ofOne_78 : decode cX3_ofOne 78 = .ok (.iaload, 1) := by decide +kernel
theorem dX3_ofOne_79 : decode cX3_ofOne 79 = .ok (.ireturn, 1) := by decide +kernel
theorem dX3_ofOne_80 : decode cX3_ofOne 80 = .ok (.aload_n 3, 1) := by decide +kernel
theorem dX3_ofOne_81 : decode cX3_ofOne 81 = .ok (.getfield 170, 3) := by decide +kernel
theorem dX3_ofOne_84 : decode cX3_ofOne 84 = .ok (.iload_n 1, 1) := by decide +kernel
theorem dX3_ofOne_85 : decode cX3_ofOne 85 = .ok (.iaload, 1) := by decide +kernel
theorem dX3_ofOne_86 : decode cX3_ofOne 86 = .ok (.ireturn, 1) := by decide +kernel
theorem dX3_ofOne_87 : decode cX3_ofOne 87 = .ok (.aload_n 3, 1) := by decide +kernel
theorem dX3_ofOne_88 : decode cX3_ofOne 88 = .ok (.getfield 302, 3) := by decide +kernel
theorem dX3_ofOne_91 : decode cX3_ofOne 91 = .ok (.iload_n 1, 1) := by decide +kernel
theorem dX3_ofOne_92 : decode cX3_ofOne 92 = .ok (.iaload, 1) := by decide +kernel
theorem dX3_ofOne_93 : decode cX3_ofOne 93 = .ok (.ireturn, 1) := by decide +kernel
theorem dX3_ofOne_94 : decode cX3_ofOne 94 = .ok (.aload_n 3, 1) := by decide +kernel
theorem dX3_ofOne_95 : decode cX3_ofOne 95 = .ok (.getfield 209, 3) := by decide +kernel
theorem dX3_ofOne_98 : decode cX3_ofOne 98 = .ok (.iload_n 1, 1) := by decide +kernel
theorem dX3_ofOne_99 : decode cX3_ofOne 99 = .ok (.iaload, 1) := by decide +kernel
theorem dX3_ofOne_100 : decode cX3_ofOne 100 = .ok (.ireturn, 1) := by decide +kernel
theorem dX3_counted_0 : decode cX3_counted 0 = .ok (.aload_n 0, 1) := by decide +kernel
theorem dX3_counted_1 : decode cX3_counted 1 = .ok (.getfield 24, 3) := by decide +kernel
theorem dX3_counted_4 : decode cX3_counted 4 = .ok (.getfield 113, 3) := by decide +kernel
theorem dX3_counted_7 : decode cX3_counted 7 = .ok (.astore_n 2, 1) := by decide +kernel
theorem dX3_counted_8 : decode cX3_counted 8 = .ok (.iload_n 1, 1) := by decide +kernel
theorem dX3_counted_9 : decode cX3_counted 9 = .ok (.tableswitch 121 0 9 #[55, 60, 68, 76, 81, 86, 91, 99, 107, 115], 55) := by decide +kernel
theorem dX3_counted_64 : decode cX3_counted 64 = .ok (.aload_n 2, 1) := by decide +kernel
theorem dX3_counted_65 : decode cX3_counted 65 = .ok (.getfield 116, 3) := by decide +kernel
theorem dX3_counted_68 : decode cX3_counted 68 = .ok (.ireturn, 1) := by decide +kernel
theorem dX3_counted_69 : decode cX3_counted 69 = .ok (.aload_n 0, 1) := by decide +kernel
theorem dX3_counted_70 : decode cX3_counted 70 = .ok (.getfield 24, 3) := by decide +kernel
theorem dX3_counted_73 : decode cX3_counted 73 = .ok (.getfield 154, 3) := by decide +kernel
theorem dX3_counted_76 : decode cX3_counted 76 = .ok (.ireturn, 1) := by decide +kernel
theorem dX3_counted_77 : decode cX3_counted 77 = .ok (.aload_n 0, 1) := by decide +kernel
theorem dX3_counted_78 : decode cX3_counted 78 = .ok (.getfield 24, 3) := by decide +kernel
theorem dX3_counted_81 : decode cX3_counted 81 = .ok (.getfield 179, 3) := by decide +kernel
theorem dX3_counted_84 : decode cX3_counted 84 = .ok (.ireturn, 1) := by decide +kernel
theorem dX3_counted_85 : decode cX3_counted 85 = .ok (.aload_n 2, 1) := by decide +kernel
theorem dX3_counted_86 : decode cX3_counted 86 = .ok (.invokevirtual 278, 3) := by decide +kernel
theorem dX3_counted_89 : decode cX3_counted 89 = .ok (.ireturn, 1) := by decide +kernel
theorem dX3_counted_90 : decode cX3_counted 90 = .ok (.aload_n 2, 1) := by decide +kernel
theorem dX3_counted_91 : decode cX3_counted 91 = .ok (.invokevirtual 305, 3) := by decide +kernel
theorem dX3_counted_94 : decode cX3_counted 94 = .ok (.ireturn, 1) := by decide +kernel
theorem dX3_counted_95 : decode cX3_counted 95 = .ok (.aload_n 2, 1) := by decide +kernel
theorem dX3_counted_96 : decode cX3_counted 96 = .ok (.invokevirtual 308, 3) := by decide +kernel
theorem dX3_counted_99 : decode cX3_counted 99 = .ok (.ireturn, 1) := by decide +kernel
theorem dX3_counted_100 : decode cX3_counted 100 = .ok (.aload_n 0, 1) := by decide +kernel
theorem dX3_counted_101 : decode cX3_counted 101 = .ok (.getfield 14, 3) := by decide +kernel
theorem dX3_counted_104 : decode cX3_counted 104 = .ok (.invokevirtual 311, 3) := by decide +kernel
theorem dX3_counted_107 : decode cX3_counted 107 = .ok (.ireturn, 1) := by decide +kernel
theorem dX3_counted_108 : decode cX3_counted 108 = .ok (.aload_n 0, 1) := by decide +kernel
theorem dX3_counted_109 : decode cX3_counted 109 = .ok (.getfield 18, 3) := by decide +kernel
theorem dX3_counted_112 : decode cX3_counted 112 = .ok (.invokevirtual 311, 3) := by decide +kernel
theorem dX3_counted_115 : decode cX3_counted 115 = .ok (.ireturn, 1) := by decide +kernel
theorem dX3_counted_116 : decode cX3_counted 116 = .ok (.aload_n 0, 1) := by decide +kernel
theorem dX3_counted_117 : decode cX3_counted 117 = .ok (.getfield 24, 3) := by decide +kernel
theorem dX3_counted_120 : decode cX3_counted 120 = .ok (.invokevirtual 314, 3) := by decide +kernel
theorem dX3_counted_123 : decode cX3_counted 123 = .ok (.ireturn, 1) := by decide +kernel
theorem dX3_counted_124 : decode cX3_counted 124 = .ok (.aload_n 2, 1) := by decide +kernel
theorem dX3_counted_125 : decode cX3_counted 125 = .ok (.iconst 1, 1) := by decide +kernel
theorem dX3_counted_126 : decode cX3_counted 126 = .ok (.invokevirtual 317, 3) := by decide +kernel
theorem dX3_counted_129 : decode cX3_counted 129 = .ok (.ireturn, 1) := by decide +kernel
theorem dX3_counted_130 : decode cX3_counted 130 = .ok (.aload_n 2, 1) := by decide +kernel
theorem dX3_counted_131 : decode cX3_counted 131 = .ok (.iconst 3, 1) := by decide +kernel
theorem dX3_counted_132 : decode cX3_counted 132 = .ok (.invokevirtual 317, 3) := by decide +kernel
theorem dX3_counted_135 : decode cX3_counted 135 = .ok (.ireturn, 1) := by decide +kernel
theorem dX3_purseBehind_0 : decode cX3_purseBehind 0 = .ok (.aload_n 0, 1) := by decide +kernel
theorem dX3_purseBehind_1 : decode cX3_purseBehind 1 = .ok (.getfield 31, 3) := by decide +kernel
theorem dX3_purseBehind_4 : decode cX3_purseBehind 4 = .ok (.aload_n 0, 1) := by decide +kernel
theorem dX3_purseBehind_5 : decode cX3_purseBehind 5 = .ok (.getfield 24, 3) := by decide +kernel
theorem dX3_purseBehind_8 : decode cX3_purseBehind 8 = .ok (.getfield 113, 3) := by decide +kernel
theorem dX3_purseBehind_11 : decode cX3_purseBehind 11 = .ok (.invokevirtual 203, 3) := by decide +kernel
theorem dX3_purseBehind_14 : decode cX3_purseBehind 14 = .ok (.aload_n 0, 1) := by decide +kernel
theorem dX3_purseBehind_15 : decode cX3_purseBehind 15 = .ok (.getfield 31, 3) := by decide +kernel
theorem dX3_purseBehind_18 : decode cX3_purseBehind 18 = .ok (.getfield 170, 3) := by decide +kernel
theorem dX3_purseBehind_21 : decode cX3_purseBehind 21 = .ok (.iload_n 1, 1) := by decide +kernel
theorem dX3_purseBehind_22 : decode cX3_purseBehind 22 = .ok (.dup2, 1) := by decide +kernel
theorem dX3_purseBehind_23 : decode cX3_purseBehind 23 = .ok (.iaload, 1) := by decide +kernel
theorem dX3_purseBehind_24 : decode cX3_purseBehind 24 = .ok (.iload_n 2, 1) := by decide +kernel
theorem dX3_purseBehind_25 : decode cX3_purseBehind 25 = .ok (.iadd, 1) := by decide +kernel
theorem dX3_purseBehind_26 : decode cX3_purseBehind 26 = .ok (.iastore, 1) := by decide +kernel
theorem dX3_purseBehind_27 : decode cX3_purseBehind 27 = .ok (.aload_n 0, 1) := by decide +kernel
theorem dX3_purseBehind_28 : decode cX3_purseBehind 28 = .ok (.getfield 31, 3) := by decide +kernel
theorem dX3_purseBehind_31 : decode cX3_purseBehind 31 = .ok (.iload_n 3, 1) := by decide +kernel
end
section
theorem dX3_purseBehind_32 : decode cX3_purseBehind 32 = .ok (.invokevirtual 320, 3) := by decide +kernel
theorem dX3_purseBehind_35 : decode cX3_purseBehind 35 = .ok (.pop, 1) := by decide +kernel
theorem dX3_purseBehind_36 : decode cX3_purseBehind 36 = .ok (.aload_n 0, 1) := by decide +kernel
theorem dX3_purseBehind_37 : decode cX3_purseBehind 37 = .ok (.getfield 31, 3) := by decide +kernel
theorem dX3_purseBehind_40 : decode cX3_purseBehind 40 = .ok (.getfield 176, 3) := by decide +kernel
theorem dX3_purseBehind_43 : decode cX3_purseBehind 43 = .ok (.iload_n 1, 1) := by decide +kernel
theorem dX3_purseBehind_44 : decode cX3_purseBehind 44 = .ok (.iaload, 1) := by decide +kernel
theorem dX3_purseBehind_45 : decode cX3_purseBehind 45 = .ok (.ireturn, 1) := by decide +kernel
theorem dX3_sootBy_0 : decode cX3_sootBy 0 = .ok (.iload_n 1, 1) := by decide +kernel
theorem dX3_sootBy_1 : decode cX3_sootBy 1 = .ok (.iconst 2, 1) := by decide +kernel
theorem dX3_sootBy_2 : decode cX3_sootBy 2 = .ok (.aload_n 0, 1) := by decide +kernel
theorem dX3_sootBy_3 : decode cX3_sootBy 3 = .ok (.getfield 24, 3) := by decide +kernel
theorem dX3_sootBy_6 : decode cX3_sootBy 6 = .ok (.getfield 113, 3) := by decide +kernel
theorem dX3_sootBy_9 : decode cX3_sootBy 9 = .ok (.getfield 116, 3) := by decide +kernel
theorem dX3_sootBy_12 : decode cX3_sootBy 12 = .ok (.iconst 1, 1) := by decide +kernel
theorem dX3_sootBy_13 : decode cX3_sootBy 13 = .ok (.isub, 1) := by decide +kernel
theorem dX3_sootBy_14 : decode cX3_sootBy 14 = .ok (.iload_n 2, 1) := by decide +kernel
theorem dX3_sootBy_15 : decode cX3_sootBy 15 = .ok (.isub, 1) := by decide +kernel
theorem dX3_sootBy_16 : decode cX3_sootBy 16 = .ok (.imul, 1) := by decide +kernel
theorem dX3_sootBy_17 : decode cX3_sootBy 17 = .ok (.ishr, 1) := by decide +kernel
theorem dX3_sootBy_18 : decode cX3_sootBy 18 = .ok (.iconst 3, 1) := by decide +kernel
theorem dX3_sootBy_19 : decode cX3_sootBy 19 = .ok (.iand, 1) := by decide +kernel
theorem dX3_sootBy_20 : decode cX3_sootBy 20 = .ok (.ireturn, 1) := by decide +kernel
theorem dX3_changedBy_0 : decode cX3_changedBy 0 = .ok (.iconst 0, 1) := by decide +kernel
theorem dX3_changedBy_1 : decode cX3_changedBy 1 = .ok (.istore_n 2, 1) := by decide +kernel
theorem dX3_changedBy_2 : decode cX3_changedBy 2 = .ok (.iconst 0, 1) := by decide +kernel
theorem dX3_changedBy_3 : decode cX3_changedBy 3 = .ok (.istore_n 3, 1) := by decide +kernel
theorem dX3_changedBy_4 : decode cX3_changedBy 4 = .ok (.iload_n 3, 1) := by decide +kernel
theorem dX3_changedBy_5 : decode cX3_changedBy 5 = .ok (.aload_n 0, 1) := by decide +kernel
theorem dX3_changedBy_6 : decode cX3_changedBy 6 = .ok (.getfield 24, 3) := by decide +kernel
theorem dX3_changedBy_9 : decode cX3_changedBy 9 = .ok (.getfield 113, 3) := by decide +kernel
theorem dX3_changedBy_12 : decode cX3_changedBy 12 = .ok (.getfield 116, 3) := by decide +kernel
theorem dX3_changedBy_15 : decode cX3_changedBy 15 = .ok (.if_icmp .ge 33, 3) := by decide +kernel
theorem dX3_changedBy_18 : decode cX3_changedBy 18 = .ok (.aload_n 0, 1) := by decide +kernel
theorem dX3_changedBy_19 : decode cX3_changedBy 19 = .ok (.iload_n 1, 1) := by decide +kernel
theorem dX3_changedBy_20 : decode cX3_changedBy 20 = .ok (.iload_n 3, 1) := by decide +kernel
theorem dX3_changedBy_21 : decode cX3_changedBy 21 = .ok (.invokevirtual 323, 3) := by decide +kernel
theorem dX3_changedBy_24 : decode cX3_changedBy 24 = .ok (.aload_n 0, 1) := by decide +kernel
theorem dX3_changedBy_25 : decode cX3_changedBy 25 = .ok (.getfield 24, 3) := by decide +kernel
theorem dX3_changedBy_28 : decode cX3_changedBy 28 = .ok (.getfield 113, 3) := by decide +kernel
theorem dX3_changedBy_31 : decode cX3_changedBy 31 = .ok (.getfield 170, 3) := by decide +kernel
theorem dX3_changedBy_34 : decode cX3_changedBy 34 = .ok (.iload_n 3, 1) := by decide +kernel
theorem dX3_changedBy_35 : decode cX3_changedBy 35 = .ok (.iaload, 1) := by decide +kernel
theorem dX3_changedBy_36 : decode cX3_changedBy 36 = .ok (.if_icmp .eq 6, 3) := by decide +kernel
theorem dX3_changedBy_39 : decode cX3_changedBy 39 = .ok (.iinc 2 1, 3) := by decide +kernel
theorem dX3_changedBy_42 : decode cX3_changedBy 42 = .ok (.iinc 3 1, 3) := by decide +kernel
theorem dX3_changedBy_45 : decode cX3_changedBy 45 = .ok (.goto (-41), 3) := by decide +kernel
theorem dX3_changedBy_48 : decode cX3_changedBy 48 = .ok (.iload_n 2, 1) := by decide +kernel
theorem dX3_changedBy_49 : decode cX3_changedBy 49 = .ok (.ireturn, 1) := by decide +kernel
theorem dX3_evenBy_0 : decode cX3_evenBy 0 = .ok (.aload_n 0, 1) := by decide +kernel
theorem dX3_evenBy_1 : decode cX3_evenBy 1 = .ok (.getfield 31, 3) := by decide +kernel
theorem dX3_evenBy_4 : decode cX3_evenBy 4 = .ok (.aload_n 0, 1) := by decide +kernel
theorem dX3_evenBy_5 : decode cX3_evenBy 5 = .ok (.getfield 24, 3) := by decide +kernel
theorem dX3_evenBy_8 : decode cX3_evenBy 8 = .ok (.getfield 113, 3) := by decide +kernel
theorem dX3_evenBy_11 : decode cX3_evenBy 11 = .ok (.invokevirtual 203, 3) := by decide +kernel
theorem dX3_evenBy_14 : decode cX3_evenBy 14 = .ok (.iconst 0, 1) := by decide +kernel
theorem dX3_evenBy_15 : decode cX3_evenBy 15 = .ok (.istore 5, 2) := by decide +kernel
theorem dX3_evenBy_17 : decode cX3_evenBy 17 = .ok (.iload 5, 2) := by decide +kernel
theorem dX3_evenBy_19 : decode cX3_evenBy 19 = .ok (.aload_n 0, 1) := by decide +kernel
theorem dX3_evenBy_20 : decode cX3_evenBy 20 = .ok (.getfield 31, 3) := by decide +kernel
theorem dX3_evenBy_23 : decode cX3_evenBy 23 = .ok (.getfield 116, 3) := by decide +kernel
theorem dX3_evenBy_26 : decode cX3_evenBy 26 = .ok (.if_icmp .ge 26, 3) := by decide +kernel
theorem dX3_evenBy_29 : decode cX3_evenBy 29 = .ok (.aload_n 0, 1) := by decide +kernel
theorem dX3_evenBy_30 : decode cX3_evenBy 30 = .ok (.getfield 31, 3) := by decide +kernel
theorem dX3_evenBy_33 : decode cX3_evenBy 33 = .ok (.getfield 170, 3) := by decide +kernel
theorem dX3_evenBy_36 : decode cX3_evenBy 36 = .ok (.iload 5, 2) := by decide +kernel
theorem dX3_evenBy_38 : decode cX3_evenBy 38 = .ok (.aload_n 0, 1) := by decide +kernel
theorem dX3_evenBy_39 : decode cX3_evenBy 39 = .ok (.iload_n 1, 1) := by decide +kernel
theorem dX3_evenBy_40 : decode cX3_evenBy 40 = .ok (.iload 5, 2) := by decide +kernel
theorem dX3_evenBy_42 : decode cX3_evenBy 42 = .ok (.invokevirtual 323, 3) := by decide +kernel
theorem dX3_evenBy_45 : decode cX3_evenBy 45 = .ok (.iastore, 1) := by decide +kernel
theorem dX3_evenBy_46 : decode cX3_evenBy 46 = .ok (.iinc 5 1, 3) := by decide +kernel
theorem dX3_evenBy_49 : decode cX3_evenBy 49 = .ok (.goto (-32), 3) := by decide +kernel
theorem dX3_evenBy_52 : decode cX3_evenBy 52 = .ok (.aload_n 0, 1) := by decide +kernel
theorem dX3_evenBy_53 : decode cX3_evenBy 53 = .ok (.getfield 31, 3) := by decide +kernel
theorem dX3_evenBy_56 : decode cX3_evenBy 56 = .ok (.iload 4, 2) := by decide +kernel
theorem dX3_evenBy_58 : decode cX3_evenBy 58 = .ok (.invokevirtual 320, 3) := by decide +kernel
theorem dX3_evenBy_61 : decode cX3_evenBy 61 = .ok (.pop, 1) := by decide +kernel
theorem dX3_evenBy_62 : decode cX3_evenBy 62 = .ok (.aload_n 0, 1) := by decide +kernel
theorem dX3_evenBy_63 : decode cX3_evenBy 63 = .ok (.getfield 31, 3) := by decide +kernel
theorem dX3_evenBy_66 : decode cX3_evenBy 66 = .ok (.getfield 176, 3) := by decide +kernel
theorem dX3_evenBy_69 : decode cX3_evenBy 69 = .ok (.iload_n 2, 1) := by decide +kernel
theorem dX3_evenBy_70 : decode cX3_evenBy 70 = .ok (.iaload, 1) := by decide +kernel
theorem dX3_evenBy_71 : decode cX3_evenBy 71 = .ok (.aload_n 0, 1) := by decide +kernel
theorem dX3_evenBy_72 : decode cX3_evenBy 72 = .ok (.getfield 31, 3) := by decide +kernel
theorem dX3_evenBy_75 : decode cX3_evenBy 75 = .ok (.getfield 176, 3) := by decide +kernel
theorem dX3_evenBy_78 : decode cX3_evenBy 78 = .ok (.iload_n 3, 1) := by decide +kernel
theorem dX3_evenBy_79 : decode cX3_evenBy 79 = .ok (.iaload, 1) := by decide +kernel
theorem dX3_evenBy_80 : decode cX3_evenBy 80 = .ok (.if_icmp .ne 7, 3) := by decide +kernel
theorem dX3_evenBy_83 : decode cX3_evenBy 83 = .ok (.iconst 1, 1) := by decide +kernel
theorem dX3_evenBy_84 : decode cX3_evenBy 84 = .ok (.goto 4, 3) := by decide +kernel
theorem dX3_evenBy_87 : decode cX3_evenBy 87 = .ok (.iconst 0, 1) := by decide +kernel
theorem dX3_evenBy_88 : decode cX3_evenBy 88 = .ok (.ireturn, 1) := by decide +kernel
theorem dX3_laySoot_0 : decode cX3_laySoot 0 = .ok (.aload_n 0, 1) := by decide +kernel
theorem dX3_laySoot_1 : decode cX3_laySoot 1 = .ok (.getfield 14, 3) := by decide +kernel
theorem dX3_laySoot_4 : decode cX3_laySoot 4 = .ok (.iload_n 1, 1) := by decide +kernel
theorem dX3_laySoot_5 : decode cX3_laySoot 5 = .ok (.aload_n 0, 1) := by decide +kernel
theorem dX3_laySoot_6 : decode cX3_laySoot 6 = .ok (.getfield 24, 3) := by decide +kernel
theorem dX3_laySoot_9 : decode cX3_laySoot 9 = .ok (.getfield 113, 3) := by decide +kernel
theorem dX3_laySoot_12 : decode cX3_laySoot 12 = .ok (.getfield 116, 3) := by decide +kernel
theorem dX3_laySoot_15 : decode cX3_laySoot 15 = .ok (.invokevirtual 67, 3) := by decide +kernel
theorem dX3_laySoot_18 : decode cX3_laySoot 18 = .ok (.iconst 0, 1) := by decide +kernel
theorem dX3_laySoot_19 : decode cX3_laySoot 19 = .ok (.istore_n 3, 1) := by decide +kernel
theorem dX3_laySoot_20 : decode cX3_laySoot 20 = .ok (.iload_n 3, 1) := by decide +kernel
theorem dX3_laySoot_21 : decode cX3_laySoot 21 = .ok (.aload_n 0, 1) := by decide +kernel
theorem dX3_laySoot_22 : decode cX3_laySoot 22 = .ok (.getfield 24, 3) := by decide +kernel
theorem dX3_laySoot_25 : decode cX3_laySoot 25 = .ok (.getfield 113, 3) := by decide +kernel
theorem dX3_laySoot_28 : decode cX3_laySoot 28 = .ok (.getfield 116, 3) := by decide +kernel
theorem dX3_laySoot_31 : decode cX3_laySoot 31 = .ok (.if_icmp .ge 26, 3) := by decide +kernel
theorem dX3_laySoot_34 : decode cX3_laySoot 34 = .ok (.aload_n 0, 1) := by decide +kernel
theorem dX3_laySoot_35 : decode cX3_laySoot 35 = .ok (.getfield 14, 3) := by decide +kernel
theorem dX3_laySoot_38 : decode cX3_laySoot 38 = .ok (.getfield 75, 3) := by decide +kernel
theorem dX3_laySoot_41 : decode cX3_laySoot 41 = .ok (.iload_n 1, 1) := by decide +kernel
theorem dX3_laySoot_42 : decode cX3_laySoot 42 = .ok (.aaload, 1) := by decide +kernel
theorem dX3_laySoot_43 : decode cX3_laySoot 43 = .ok (.iload_n 3, 1) := by decide +kernel
theorem dX3_laySoot_44 : decode cX3_laySoot 44 = .ok (.aload_n 0, 1) := by decide +kernel
theorem dX3_laySoot_45 : decode cX3_laySoot 45 = .ok (.iload_n 2, 1) := by decide +kernel
theorem dX3_laySoot_46 : decode cX3_laySoot 46 = .ok (.iload_n 3, 1) := by decide +kernel
theorem dX3_laySoot_47 : decode cX3_laySoot 47 = .ok (.invokevirtual 323, 3) := by decide +kernel
theorem dX3_laySoot_50 : decode cX3_laySoot 50 = .ok (.iastore, 1) := by decide +kernel
theorem dX3_laySoot_51 : decode cX3_laySoot 51 = .ok (.iinc 3 1, 3) := by decide +kernel
theorem dX3_laySoot_54 : decode cX3_laySoot 54 = .ok (.goto (-34), 3) := by decide +kernel
theorem dX3_laySoot_57 : decode cX3_laySoot 57 = .ok (.return_, 1) := by decide +kernel
theorem dX3_givenIfChanged_0 : decode cX3_givenIfChanged 0 = .ok (.aload_n 0, 1) := by decide +kernel
theorem dX3_givenIfChanged_1 : decode cX3_givenIfChanged 1 = .ok (.getfield 31, 3) := by decide +kernel
theorem dX3_givenIfChanged_4 : decode cX3_givenIfChanged 4 = .ok (.aload_n 0, 1) := by decide +kernel
theorem dX3_givenIfChanged_5 : decode cX3_givenIfChanged 5 = .ok (.getfield 24, 3) := by decide +kernel
theorem dX3_givenIfChanged_8 : decode cX3_givenIfChanged 8 = .ok (.getfield 113, 3) := by decide +kernel
theorem dX3_givenIfChanged_11 : decode cX3_givenIfChanged 11 = .ok (.invokevirtual 203, 3) := by decide +kernel
theorem dX3_givenIfChanged_14 : decode cX3_givenIfChanged 14 = .ok (.aload_n 0, 1) := by decide +kernel
theorem dX3_givenIfChanged_15 : decode cX3_givenIfChanged 15 = .ok (.getfield 31, 3) := by decide +kernel
theorem dX3_givenIfChanged_18 : decode cX3_givenIfChanged 18 = .ok (.getfield 143, 3) := by decide +kernel
theorem dX3_givenIfChanged_21 : decode cX3_givenIfChanged 21 = .ok (.iload_n 1, 1) := by decide +kernel
theorem dX3_givenIfChanged_22 : decode cX3_givenIfChanged 22 = .ok (.aload_n 0, 1) := by decide +kernel
theorem dX3_givenIfChanged_23 : decode cX3_givenIfChanged 23 = .ok (.getfield 24, 3) := by decide +kernel
theorem dX3_givenIfChanged_26 : decode cX3_givenIfChanged 26 = .ok (.getfield 113, 3) := by decide +kernel
theorem dX3_givenIfChanged_29 : decode cX3_givenIfChanged 29 = .ok (.getfield 143, 3) := by decide +kernel
theorem dX3_givenIfChanged_32 : decode cX3_givenIfChanged 32 = .ok (.iload_n 2, 1) := by decide +kernel
theorem dX3_givenIfChanged_33 : decode cX3_givenIfChanged 33 = .ok (.iaload, 1) := by decide +kernel
theorem dX3_givenIfChanged_34 : decode cX3_givenIfChanged 34 = .ok (.iastore, 1) := by decide +kernel
theorem dX3_givenIfChanged_35 : decode cX3_givenIfChanged 35 = .ok (.aload_n 0, 1) := by decide +kernel
theorem dX3_givenIfChanged_36 : decode cX3_givenIfChanged 36 = .ok (.getfield 31, 3) := by decide +kernel
theorem dX3_givenIfChanged_39 : decode cX3_givenIfChanged 39 = .ok (.getfield 143, 3) := by decide +kernel
theorem dX3_givenIfChanged_42 : decode cX3_givenIfChanged 42 = .ok (.iload_n 2, 1) := by decide +kernel
theorem dX3_givenIfChanged_43 : decode cX3_givenIfChanged 43 = .ok (.aload_n 0, 1) := by decide +kernel
theorem dX3_givenIfChanged_44 : decode cX3_givenIfChanged 44 = .ok (.getfield 24, 3) := by decide +kernel
theorem dX3_givenIfChanged_47 : decode cX3_givenIfChanged 47 = .ok (.getfield 113, 3) := by decide +kernel
theorem dX3_givenIfChanged_50 : decode cX3_givenIfChanged 50 = .ok (.getfield 143, 3) := by decide +kernel
theorem dX3_givenIfChanged_53 : decode cX3_givenIfChanged 53 = .ok (.iload_n 1, 1) := by decide +kernel
theorem dX3_givenIfChanged_54 : decode cX3_givenIfChanged 54 = .ok (.iaload, 1) := by decide +kernel
theorem dX3_givenIfChanged_55 : decode cX3_givenIfChanged 55 = .ok (.iastore, 1) := by decide +kernel
theorem dX3_givenIfChanged_56 : decode cX3_givenIfChanged 56 = .ok (.aload_n 0, 1) := by decide +kernel
theorem dX3_givenIfChanged_57 : decode cX3_givenIfChanged 57 = .ok (.getfield 31, 3) := by decide +kernel
theorem dX3_givenIfChanged_60 : decode cX3_givenIfChanged 60 = .ok (.iload_n 3, 1) := by decide +kernel
theorem dX3_givenIfChanged_61 : decode cX3_givenIfChanged 61 = .ok (.invokevirtual 320, 3) := by decide +kernel
theorem dX3_givenIfChanged_64 : decode cX3_givenIfChanged 64 = .ok (.ireturn, 1) := by decide +kernel
theorem dX3_fitsPairs_0 : decode cX3_fitsPairs 0 = .ok (.aload_n 0, 1) := by decide +kernel
theorem dX3_fitsPairs_1 : decode cX3_fitsPairs 1 = .ok (.getfield 14, 3) := by decide +kernel
theorem dX3_fitsPairs_4 : decode cX3_fitsPairs 4 = .ok (.getfield 75, 3) := by decide +kernel
theorem dX3_fitsPairs_7 : decode cX3_fitsPairs 7 = .ok (.iload_n 1, 1) := by decide +kernel
theorem dX3_fitsPairs_8 : decode cX3_fitsPairs 8 = .ok (.aaload, 1) := by decide +kernel
theorem dX3_fitsPairs_9 : decode cX3_fitsPairs 9 = .ok (.astore 5, 2) := by decide +kernel
theorem dX3_fitsPairs_11 : decode cX3_fitsPairs 11 = .ok (.iconst 0, 1) := by decide +kernel
theorem dX3_fitsPairs_12 : decode cX3_fitsPairs 12 = .ok (.istore 6, 2) := by decide +kernel
theorem dX3_fitsPairs_14 : decode cX3_fitsPairs 14 = .ok (.iload 6, 2) := by decide +kernel
theorem dX3_fitsPairs_16 : decode cX3_fitsPairs 16 = .ok (.iconst 1, 1) := by decide +kernel
theorem dX3_fitsPairs_17 : decode cX3_fitsPairs 17 = .ok (.iadd, 1) := by decide +kernel
theorem dX3_fitsPairs_18 : decode cX3_fitsPairs 18 = .ok (.aload_n 0, 1) := by decide +kernel
theorem dX3_fitsPairs_19 : decode cX3_fitsPairs 19 = .ok (.getfield 14, 3) := by decide +kernel
theorem dX3_fitsPairs_22 : decode cX3_fitsPairs 22 = .ok (.getfield 85, 3) := by decide +kernel
theorem dX3_fitsPairs_25 : decode cX3_fitsPairs 25 = .ok (.iload_n 1, 1) := by decide +kernel
theorem dX3_fitsPairs_26 : decode cX3_fitsPairs 26 = .ok (.iaload, 1) := by decide +kernel
theorem dX3_fitsPairs_27 : decode cX3_fitsPairs 27 = .ok (.if_icmp .ge 33, 3) := by decide +kernel
theorem dX3_fitsPairs_30 : decode cX3_fitsPairs 30 = .ok (.iload_n 2, 1) := by decide +kernel
theorem dX3_fitsPairs_31 : decode cX3_fitsPairs 31 = .ok (.iload_n 3, 1) := by decide +kernel
theorem dX3_fitsPairs_32 : decode cX3_fitsPairs 32 = .ok (.iload 4, 2) := by decide +kernel
theorem dX3_fitsPairs_34 : decode cX3_fitsPairs 34 = .ok (.aload 5, 2) := by decide +kernel
theorem dX3_fitsPairs_36 : decode cX3_fitsPairs 36 = .ok (.iload 6, 2) := by decide +kernel
theorem dX3_fitsPairs_38 : decode cX3_fitsPairs 38 = .ok (.iaload, 1) := by decide +kernel
theorem dX3_fitsPairs_39 : decode cX3_fitsPairs 39 = .ok (.invokestatic 146, 3) := by decide +kernel
theorem dX3_fitsPairs_42 : decode cX3_fitsPairs 42 = .ok (.aload 5, 2) := by decide +kernel
theorem dX3_fitsPairs_44 : decode cX3_fitsPairs 44 = .ok (.iload 6, 2) := by decide +kernel
theorem dX3_fitsPairs_46 : decode cX3_fitsPairs 46 = .ok (.iconst 1, 1) := by decide +kernel
theorem dX3_fitsPairs_47 : decode cX3_fitsPairs 47 = .ok (.iadd, 1) := by decide +kernel
theorem dX3_fitsPairs_48 : decode cX3_fitsPairs 48 = .ok (.iaload, 1) := by decide +kernel
theorem dX3_fitsPairs_49 : decode cX3_fitsPairs 49 = .ok (.if_icmp .eq 5, 3) := by decide +kernel
theorem dX3_fitsPairs_52 : decode cX3_fitsPairs 52 = .ok (.iconst 0, 1) := by decide +kernel
theorem dX3_fitsPairs_53 : decode cX3_fitsPairs 53 = .ok (.ireturn, 1) := by decide +kernel
theorem dX3_fitsPairs_54 : decode cX3_fitsPairs 54 = .ok (.iinc 6 2, 3) := by decide +kernel
theorem dX3_fitsPairs_57 : decode cX3_fitsPairs 57 = .ok (.goto (-43), 3) := by decide +kernel
theorem dX3_fitsPairs_60 : decode cX3_fitsPairs 60 = .ok (.iconst 1, 1) := by decide +kernel
theorem dX3_fitsPairs_61 : decode cX3_fitsPairs 61 = .ok (.ireturn, 1) := by decide +kernel
theorem dX3_kindsByPairs_0 : decode cX3_kindsByPairs 0 = .ok (.iconst 0, 1) := by decide +kernel
theorem dX3_kindsByPairs_1 : decode cX3_kindsByPairs 1 = .ok (.istore_n 3, 1) := by decide +kernel
theorem dX3_kindsByPairs_2 : decode cX3_kindsByPairs 2 = .ok (.iconst 0, 1) := by decide +kernel
theorem dX3_kindsByPairs_3 : decode cX3_kindsByPairs 3 = .ok (.istore 4, 2) := by decide +kernel
theorem dX3_kindsByPairs_5 : decode cX3_kindsByPairs 5 = .ok (.iload 4, 2) := by decide +kernel
theorem dX3_kindsByPairs_7 : decode cX3_kindsByPairs 7 = .ok (.bipush 6, 2) := by decide +kernel
theorem dX3_kindsByPairs_9 : decode cX3_kindsByPairs 9 = .ok (.if_icmp .ge 50, 3) := by decide +kernel
theorem dX3_kindsByPairs_12 : decode cX3_kindsByPairs 12 = .ok (.aload_n 0, 1) := by decide +kernel
theorem dX3_kindsByPairs_13 : decode cX3_kindsByPairs 13 = .ok (.iload_n 2, 1) := by decide +kernel
theorem dX3_kindsByPairs_14 : decode cX3_kindsByPairs 14 = .ok (.iload 4, 2) := by decide +kernel
theorem dX3_kindsByPairs_16 : decode cX3_kindsByPairs 16 = .ok (.aload_n 0, 1) := by decide +kernel
theorem dX3_kindsByPairs_17 : decode cX3_kindsByPairs 17 = .ok (.getfield 24, 3) := by decide +kernel
theorem dX3_kindsByPairs_20 : decode cX3_kindsByPairs 20 = .ok (.getfield 113, 3) := by decide +kernel
theorem dX3_kindsByPairs_23 : decode cX3_kindsByPairs 23 = .ok (.getfield 143, 3) := by decide +kernel
theorem dX3_kindsByPairs_26 : decode cX3_kindsByPairs 26 = .ok (.iload_n 1, 1) := by decide +kernel
theorem dX3_kindsByPairs_27 : decode cX3_kindsByPairs 27 = .ok (.iaload, 1) := by decide +kernel
theorem dX3_kindsByPairs_28 : decode cX3_kindsByPairs 28 = .ok (.aload_n 0, 1) := by decide +kernel
theorem dX3_kindsByPairs_29 : decode cX3_kindsByPairs 29 = .ok (.getfield 24, 3) := by decide +kernel
theorem dX3_kindsByPairs_32 : decode cX3_kindsByPairs 32 = .ok (.getfield 113, 3) := by decide +kernel
theorem dX3_kindsByPairs_35 : decode cX3_kindsByPairs 35 = .ok (.getfield 170, 3) := by decide +kernel
theorem dX3_kindsByPairs_38 : decode cX3_kindsByPairs 38 = .ok (.iload_n 1, 1) := by decide +kernel
theorem dX3_kindsByPairs_39 : decode cX3_kindsByPairs 39 = .ok (.iaload, 1) := by decide +kernel
theorem dX3_kindsByPairs_40 : decode cX3_kindsByPairs 40 = .ok (.invokevirtual 235, 3) := by decide +kernel
theorem dX3_kindsByPairs_43 : decode cX3_kindsByPairs 43 = .ok (.ifCond .eq 10, 3) := by decide +kernel
theorem dX3_kindsByPairs_46 : decode cX3_kindsByPairs 46 = .ok (.iload_n 3, 1) := by decide +kernel
theorem dX3_kindsByPairs_47 : decode cX3_kindsByPairs 47 = .ok (.iconst 1, 1) := by decide +kernel
theorem dX3_kindsByPairs_48 : decode cX3_kindsByPairs 48 = .ok (.iload 4, 2) := by decide +kernel
theorem dX3_kindsByPairs_50 : decode cX3_kindsByPairs 50 = .ok (.ishl, 1) := by decide +kernel
theorem dX3_kindsByPairs_51 : decode cX3_kindsByPairs 51 = .ok (.ior, 1) := by decide +kernel
theorem dX3_kindsByPairs_52 : decode cX3_kindsByPairs 52 = .ok (.istore_n 3, 1) := by decide +kernel
theorem dX3_kindsByPairs_53 : decode cX3_kindsByPairs 53 = .ok (.iinc 4 1, 3) := by decide +kernel
theorem dX3_kindsByPairs_56 : decode cX3_kindsByPairs 56 = .ok (.goto (-51), 3) := by decide +kernel
theorem dX3_kindsByPairs_59 : decode cX3_kindsByPairs 59 = .ok (.iload_n 3, 1) := by decide +kernel
theorem dX3_kindsByPairs_60 : decode cX3_kindsByPairs 60 = .ok (.ireturn, 1) := by decide +kernel
theorem dX3_greatestPart_0 : decode cX3_greatestPart 0 = .ok (.iconst 0, 1) := by decide +kernel
theorem dX3_greatestPart_1 : decode cX3_greatestPart 1 = .ok (.istore 4, 2) := by decide +kernel
theorem dX3_greatestPart_3 : decode cX3_greatestPart 3 = .ok (.iconst 0, 1) := by decide +kernel
theorem dX3_greatestPart_4 : decode cX3_greatestPart 4 = .ok (.istore 5, 2) := by decide +kernel
theorem dX3_greatestPart_6 : decode cX3_greatestPart 6 = .ok (.iload 5, 2) := by decide +kernel
theorem dX3_greatestPart_8 : decode cX3_greatestPart 8 = .ok (.bipush 6, 2) := by decide +kernel
theorem dX3_greatestPart_10 : decode cX3_greatestPart 10 = .ok (.if_icmp .ge 34, 3) := by decide +kernel
theorem dX3_greatestPart_13 : decode cX3_greatestPart 13 = .ok (.iload_n 2, 1) := by decide +kernel
theorem dX3_greatestPart_14 : decode cX3_greatestPart 14 = .ok (.iload 5, 2) := by decide +kernel
theorem dX3_greatestPart_16 : decode cX3_greatestPart 16 = .ok (.ishr, 1) := by decide +kernel
theorem dX3_greatestPart_17 : decode cX3_greatestPart 17 = .ok (.iconst 1, 1) := by decide +kernel
theorem dX3_greatestPart_18 : decode cX3_greatestPart 18 = .ok (.iand, 1) := by decide +kernel
theorem dX3_greatestPart_19 : decode cX3_greatestPart 19 = .ok (.ifCond .eq 19, 3) := by decide +kernel
theorem dX3_greatestPart_22 : decode cX3_greatestPart 22 = .ok (.iload 4, 2) := by decide +kernel
theorem dX3_greatestPart_24 : decode cX3_greatestPart 24 = .ok (.aload_n 0, 1) := by decide +kernel
theorem dX3_greatestPart_25 : decode cX3_greatestPart 25 = .ok (.iload 5, 2) := by decide +kernel
theorem dX3_greatestPart_27 : decode cX3_greatestPart 27 = .ok (.iload_n 1, 1) := by decide +kernel
theorem dX3_greatestPart_28 : decode cX3_greatestPart 28 = .ok (.iload_n 2, 1) := by decide +kernel
theorem dX3_greatestPart_29 : decode cX3_greatestPart 29 = .ok (.iload_n 3, 1) := by decide +kernel
theorem dX3_greatestPart_30 : decode cX3_greatestPart 30 = .ok (.invokevirtual 326, 3) := by decide +kernel
theorem dX3_greatestPart_33 : decode cX3_greatestPart 33 = .ok (.invokestatic 329, 3) := by decide +kernel
theorem dX3_greatestPart_36 : decode cX3_greatestPart 36 = .ok (.istore 4, 2) := by decide +kernel
theorem dX3_greatestPart_38 : decode cX3_greatestPart 38 = .ok (.iinc 5 1, 3) := by decide +kernel
theorem dX3_greatestPart_41 : decode cX3_greatestPart 41 = .ok (.goto (-35), 3) := by decide +kernel
theorem dX3_greatestPart_44 : decode cX3_greatestPart 44 = .ok (.iload 4, 2) := by decide +kernel
theorem dX3_greatestPart_46 : decode cX3_greatestPart 46 = .ok (.ireturn, 1) := by decide +kernel
theorem dX3_partLike_0 : decode cX3_partLike 0 = .ok (.aload_n 0, 1) := by decide +kernel
theorem dX3_partLike_1 : decode cX3_partLike 1 = .ok (.getfield 24, 3) := by decide +kernel
theorem dX3_partLike_4 : decode cX3_partLike 4 = .ok (.getfield 113, 3) := by decide +kernel
theorem dX3_partLike_7 : decode cX3_partLike 7 = .ok (.getfield 143, 3) := by decide +kernel
theorem dX3_partLike_10 : decode cX3_partLike 10 = .ok (.iload_n 2, 1) := by decide +kernel
theorem dX3_partLike_11 : decode cX3_partLike 11 = .ok (.iaload, 1) := by decide +kernel
theorem dX3_partLike_12 : decode cX3_partLike 12 = .ok (.istore 5, 2) := by decide +kernel
theorem dX3_partLike_14 : decode cX3_partLike 14 = .ok (.aload_n 0, 1) := by decide +kernel
theorem dX3_partLike_15 : decode cX3_partLike 15 = .ok (.getfield 24, 3) := by decide +kernel
theorem dX3_partLike_18 : decode cX3_partLike 18 = .ok (.getfield 113, 3) := by decide +kernel
theorem dX3_partLike_21 : decode cX3_partLike 21 = .ok (.getfield 170, 3) := by decide +kernel
theorem dX3_partLike_24 : decode cX3_partLike 24 = .ok (.iload_n 2, 1) := by decide +kernel
theorem dX3_partLike_25 : decode cX3_partLike 25 = .ok (.iaload, 1) := by decide +kernel
theorem dX3_partLike_26 : decode cX3_partLike 26 = .ok (.istore 6, 2) := by decide +kernel
theorem dX3_partLike_28 : decode cX3_partLike 28 = .ok (.iload_n 1, 1) := by decide +kernel
theorem dX3_partLike_29 : decode cX3_partLike 29 = .ok (.iload 5, 2) := by decide +kernel
theorem dX3_partLike_31 : decode cX3_partLike 31 = .ok (.iload 6, 2) := by decide +kernel
theorem dX3_partLike_33 : decode cX3_partLike 33 = .ok (.iload 4, 2) := by decide +kernel
theorem dX3_partLike_35 : decode cX3_partLike 35 = .ok (.invokestatic 146, 3) := by decide +kernel
theorem dX3_partLike_38 : decode cX3_partLike 38 = .ok (.istore 7, 2) := by decide +kernel
theorem dX3_partLike_40 : decode cX3_partLike 40 = .ok (.iconst 0, 1) := by decide +kernel
theorem dX3_partLike_41 : decode cX3_partLike 41 = .ok (.istore 8, 2) := by decide +kernel
theorem dX3_partLike_43 : decode cX3_partLike 43 = .ok (.iconst 0, 1) := by decide +kernel
theorem dX3_partLike_44 : decode cX3_partLike 44 = .ok (.istore 9, 2) := by decide +kernel
theorem dX3_partLike_46 : decode cX3_partLike 46 = .ok (.iload 9, 2) := by decide +kernel
theorem dX3_partLike_48 : decode cX3_partLike 48 = .ok (.bipush 6, 2) := by decide +kernel
theorem dX3_partLike_50 : decode cX3_partLike 50 = .ok (.if_icmp .ge 37, 3) := by decide +kernel
theorem dX3_partLike_53 : decode cX3_partLike 53 = .ok (.iload_n 3, 1) := by decide +kernel
theorem dX3_partLike_54 : decode cX3_partLike 54 = .ok (.iload 9, 2) := by decide +kernel
theorem dX3_partLike_56 : decode cX3_partLike 56 = .ok (.ishr, 1) := by decide +kernel
theorem dX3_partLike_57 : decode cX3_partLike 57 = .ok (.iconst 1, 1) := by decide +kernel
theorem dX3_partLike_58 : decode cX3_partLike 58 = .ok (.iand, 1) := by decide +kernel
theorem dX3_partLike_59 : decode cX3_partLike 59 = .ok (.ifCond .eq 22, 3) := by decide +kernel
theorem dX3_partLike_62 : decode cX3_partLike 62 = .ok (.iload 9, 2) := by decide +kernel
theorem dX3_partLike_64 : decode cX3_partLike 64 = .ok (.iload 5, 2) := by decide +kernel
theorem dX3_partLike_66 : decode cX3_partLike 66 = .ok (.iload 6, 2) := by decide +kernel
theorem dX3_partLike_68 : decode cX3_partLike 68 = .ok (.iload 4, 2) := by decide +kernel
theorem dX3_partLike_70 : decode cX3_partLike 70 = .ok (.invokestatic 146, 3) := by decide +kernel
theorem dX3_partLike_73 : decode cX3_partLike 73 = .ok (.iload 7, 2) := by decide +kernel
theorem dX3_partLike_75 : decode cX3_partLike 75 = .ok (.if_icmp .ne 6, 3) := by decide +kernel
theorem dX3_partLike_78 : decode cX3_partLike 78 = .ok (.iinc 8 1, 3) := by decide +kernel
theorem dX3_partLike_81 : decode cX3_partLike 81 = .ok (.iinc 9 1, 3) := by decide +kernel
theorem dX3_partLike_84 : decode cX3_partLike 84 = .ok (.goto (-38), 3) := by decide +kernel
theorem dX3_partLike_87 : decode cX3_partLike 87 = .ok (.iload 8, 2) := by decide +kernel
theorem dX3_partLike_89 : decode cX3_partLike 89 = .ok (.ireturn, 1) := by decide +kernel
theorem dX3_duelWay_0 : decode cX3_duelWay 0 = .ok (.iconst 4, 1) := by decide +kernel
theorem dX3_duelWay_1 : decode cX3_duelWay 1 = .ok (.iload_n 0, 1) := by decide +kernel
theorem dX3_duelWay_2 : decode cX3_duelWay 2 = .ok (.imul, 1) := by decide +kernel
theorem dX3_duelWay_3 : decode cX3_duelWay 3 = .ok (.iload_n 1, 1) := by decide +kernel
theorem dX3_duelWay_4 : decode cX3_duelWay 4 = .ok (.iadd, 1) := by decide +kernel
theorem dX3_duelWay_5 : decode cX3_duelWay 5 = .ok (.ireturn, 1) := by decide +kernel
theorem dX3_duelEnd_0 : decode cX3_duelEnd 0 = .ok (.aload_n 0, 1) := by decide +kernel
theorem dX3_duelEnd_1 : decode cX3_duelEnd 1 = .ok (.getfield 31, 3) := by decide +kernel
theorem dX3_duelEnd_4 : decode cX3_duelEnd 4 = .ok (.aload_n 0, 1) := by decide +kernel
theorem dX3_duelEnd_5 : decode cX3_duelEnd 5 = .ok (.getfield 24, 3) := by decide +kernel
theorem dX3_duelEnd_8 : decode cX3_duelEnd 8 = .ok (.getfield 113, 3) := by decide +kernel
theorem dX3_duelEnd_11 : decode cX3_duelEnd 11 = .ok (.invokevirtual 203, 3) := by decide +kernel
theorem dX3_duelEnd_14 : decode cX3_duelEnd 14 = .ok (.aload_n 0, 1) := by decide +kernel
theorem dX3_duelEnd_15 : decode cX3_duelEnd 15 = .ok (.getfield 31, 3) := by decide +kernel
theorem dX3_duelEnd_18 : decode cX3_duelEnd 18 = .ok (.getfield 170, 3) := by decide +kernel
theorem dX3_duelEnd_21 : decode cX3_duelEnd 21 = .ok (.iload_n 1, 1) := by decide +kernel
theorem dX3_duelEnd_22 : decode cX3_duelEnd 22 = .ok (.iload_n 3, 1) := by decide +kernel
theorem dX3_duelEnd_23 : decode cX3_duelEnd 23 = .ok (.iconst 4, 1) := by decide +kernel
theorem dX3_duelEnd_24 : decode cX3_duelEnd 24 = .ok (.idiv, 1) := by decide +kernel
theorem dX3_duelEnd_25 : decode cX3_duelEnd 25 = .ok (.iastore, 1) := by decide +kernel
theorem dX3_duelEnd_26 : decode cX3_duelEnd 26 = .ok (.aload_n 0, 1) := by decide +kernel
theorem dX3_duelEnd_27 : decode cX3_duelEnd 27 = .ok (.getfield 31, 3) := by decide +kernel
theorem dX3_duelEnd_30 : decode cX3_duelEnd 30 = .ok (.getfield 170, 3) := by decide +kernel
theorem dX3_duelEnd_33 : decode cX3_duelEnd 33 = .ok (.iload_n 2, 1) := by decide +kernel
theorem dX3_duelEnd_34 : decode cX3_duelEnd 34 = .ok (.iload_n 3, 1) := by decide +kernel
theorem dX3_duelEnd_35 : decode cX3_duelEnd 35 = .ok (.iconst 4, 1) := by decide +kernel
theorem dX3_duelEnd_36 : decode cX3_duelEnd 36 = .ok (.irem, 1) := by decide +kernel
theorem dX3_duelEnd_37 : decode cX3_duelEnd 37 = .ok (.iastore, 1) := by decide +kernel
theorem dX3_duelEnd_38 : decode cX3_duelEnd 38 = .ok (.aload_n 0, 1) := by decide +kernel
theorem dX3_duelEnd_39 : decode cX3_duelEnd 39 = .ok (.getfield 31, 3) := by decide +kernel
theorem dX3_duelEnd_42 : decode cX3_duelEnd 42 = .ok (.iconst 4, 1) := by decide +kernel
theorem dX3_duelEnd_43 : decode cX3_duelEnd 43 = .ok (.invokevirtual 320, 3) := by decide +kernel
theorem dX3_duelEnd_46 : decode cX3_duelEnd 46 = .ok (.pop, 1) := by decide +kernel
theorem dX3_duelEnd_47 : decode cX3_duelEnd 47 = .ok (.aload_n 0, 1) := by decide +kernel
theorem dX3_duelEnd_48 : decode cX3_duelEnd 48 = .ok (.getfield 31, 3) := by decide +kernel
theorem dX3_duelEnd_51 : decode cX3_duelEnd 51 = .ok (.getfield 176, 3) := by decide +kernel
theorem dX3_duelEnd_54 : decode cX3_duelEnd 54 = .ok (.iload_n 1, 1) := by decide +kernel
theorem dX3_duelEnd_55 : decode cX3_duelEnd 55 = .ok (.iaload, 1) := by decide +kernel
theorem dX3_duelEnd_56 : decode cX3_duelEnd 56 = .ok (.aload_n 0, 1) := by decide +kernel
theorem dX3_duelEnd_57 : decode cX3_duelEnd 57 = .ok (.getfield 31, 3) := by decide +kernel
theorem dX3_duelEnd_60 : decode cX3_duelEnd 60 = .ok (.getfield 176, 3) := by decide +kernel
theorem dX3_duelEnd_63 : decode cX3_duelEnd 63 = .ok (.iload_n 2, 1) := by decide +kernel
theorem dX3_duelEnd_64 : decode cX3_duelEnd 64 = .ok (.iaload, 1) := by decide +kernel
theorem dX3_duelEnd_65 : decode cX3_duelEnd 65 = .ok (.isub, 1) := by decide +kernel
theorem dX3_duelEnd_66 : decode cX3_duelEnd 66 = .ok (.ireturn, 1) := by decide +kernel
theorem dX3_bestForFirst_0 : decode cX3_bestForFirst 0 = .ok (.iload_n 1, 1) := by decide +kernel
theorem dX3_bestForFirst_1 : decode cX3_bestForFirst 1 = .ok (.iconst 4, 1) := by decide +kernel
theorem dX3_bestForFirst_2 : decode cX3_bestForFirst 2 = .ok (.idiv, 1) := by decide +kernel
theorem dX3_bestForFirst_3 : decode cX3_bestForFirst 3 = .ok (.istore_n 2, 1) := by decide +kernel
theorem dX3_bestForFirst_4 : decode cX3_bestForFirst 4 = .ok (.iload_n 1, 1) := by decide +kernel
theorem dX3_bestForFirst_5 : decode cX3_bestForFirst 5 = .ok (.iconst 4, 1) := by decide +kernel
theorem dX3_bestForFirst_6 : decode cX3_bestForFirst 6 = .ok (.irem, 1) := by decide +kernel
theorem dX3_bestForFirst_7 : decode cX3_bestForFirst 7 = .ok (.istore_n 3, 1) := by decide +kernel
theorem dX3_bestForFirst_8 : decode cX3_bestForFirst 8 = .ok (.iload_n 2, 1) := by decide +kernel
theorem dX3_bestForFirst_9 : decode cX3_bestForFirst 9 = .ok (.iconst 1, 1) := by decide +kernel
theorem dX3_bestForFirst_10 : decode cX3_bestForFirst 10 = .ok (.iadd, 1) := by decide +kernel
theorem dX3_bestForFirst_11 : decode cX3_bestForFirst 11 = .ok (.iconst 3, 1) := by decide +kernel
theorem dX3_bestForFirst_12 : decode cX3_bestForFirst 12 = .ok (.invokestatic 332, 3) := by decide +kernel
theorem dX3_bestForFirst_15 : decode cX3_bestForFirst 15 = .ok (.istore 4, 2) := by decide +kernel
theorem dX3_bestForFirst_17 : decode cX3_bestForFirst 17 = .ok (.aload_n 0, 1) := by decide +kernel
theorem dX3_bestForFirst_18 : decode cX3_bestForFirst 18 = .ok (.getfield 39, 3) := by decide +kernel
theorem dX3_bestForFirst_21 : decode cX3_bestForFirst 21 = .ok (.iload_n 1, 1) := by decide +kernel
theorem dX3_bestForFirst_22 : decode cX3_bestForFirst 22 = .ok (.iaload, 1) := by decide +kernel
theorem dX3_bestForFirst_23 : decode cX3_bestForFirst 23 = .ok (.aload_n 0, 1) := by decide +kernel
theorem dX3_bestForFirst_24 : decode cX3_bestForFirst 24 = .ok (.getfield 39, 3) := by decide +kernel
theorem dX3_bestForFirst_27 : decode cX3_bestForFirst 27 = .ok (.iconst 0, 1) := by decide +kernel
theorem dX3_bestForFirst_28 : decode cX3_bestForFirst 28 = .ok (.iload_n 3, 1) := by decide +kernel
theorem dX3_bestForFirst_29 : decode cX3_bestForFirst 29 = .ok (.invokestatic 253, 3) := by decide +kernel
theorem dX3_bestForFirst_32 : decode cX3_bestForFirst 32 = .ok (.iaload, 1) := by decide +kernel
theorem dX3_bestForFirst_33 : decode cX3_bestForFirst 33 = .ok (.invokestatic 329, 3) := by decide +kernel
theorem dX3_bestForFirst_36 : decode cX3_bestForFirst 36 = .ok (.istore 5, 2) := by decide +kernel
theorem dX3_bestForFirst_38 : decode cX3_bestForFirst 38 = .ok (.iload 5, 2) := by decide +kernel
theorem dX3_bestForFirst_40 : decode cX3_bestForFirst 40 = .ok (.aload_n 0, 1) := by decide +kernel
theorem dX3_bestForFirst_41 : decode cX3_bestForFirst 41 = .ok (.getfield 39, 3) := by decide +kernel
theorem dX3_bestForFirst_44 : decode cX3_bestForFirst 44 = .ok (.iload 4, 2) := by decide +kernel
theorem dX3_bestForFirst_46 : decode cX3_bestForFirst 46 = .ok (.iload_n 3, 1) := by decide +kernel
theorem dX3_bestForFirst_47 : decode cX3_bestForFirst 47 = .ok (.invokestatic 253, 3) := by decide +kernel
theorem dX3_bestForFirst_50 : decode cX3_bestForFirst 50 = .ok (.iaload, 1) := by decide +kernel
theorem dX3_bestForFirst_51 : decode cX3_bestForFirst 51 = .ok (.invokestatic 329, 3) := by decide +kernel
theorem dX3_bestForFirst_54 : decode cX3_bestForFirst 54 = .ok (.ireturn, 1) := by decide +kernel
theorem dX3_bestForSecond_0 : decode cX3_bestForSecond 0 = .ok (.iload_n 1, 1) := by decide +kernel
theorem dX3_bestForSecond_1 : decode cX3_bestForSecond 1 = .ok (.iconst 4, 1) := by decide +kernel
theorem dX3_bestForSecond_2 : decode cX3_bestForSecond 2 = .ok (.idiv, 1) := by decide +kernel
theorem dX3_bestForSecond_3 : decode cX3_bestForSecond 3 = .ok (.istore_n 2, 1) := by decide +kernel
theorem dX3_bestForSecond_4 : decode cX3_bestForSecond 4 = .ok (.iload_n 1, 1) := by decide +kernel
theorem dX3_bestForSecond_5 : decode cX3_bestForSecond 5 = .ok (.iconst 4, 1) := by decide +kernel
theorem dX3_bestForSecond_6 : decode cX3_bestForSecond 6 = .ok (.irem, 1) := by decide +kernel
theorem dX3_bestForSecond_7 : decode cX3_bestForSecond 7 = .ok (.istore_n 3, 1) := by decide +kernel
theorem dX3_bestForSecond_8 : decode cX3_bestForSecond 8 = .ok (.iload_n 3, 1) := by decide +kernel
theorem dX3_bestForSecond_9 : decode cX3_bestForSecond 9 = .ok (.iconst 1, 1) := by decide +kernel
theorem dX3_bestForSecond_10 : decode cX3_bestForSecond 10 = .ok (.iadd, 1) := by decide +kernel
theorem dX3_bestForSecond_11 : decode cX3_bestForSecond 11 = .ok (.iconst 3, 1) := by decide +kernel
theorem dX3_bestForSecond_12 : decode cX3_bestForSecond 12 = .ok (.invokestatic 332, 3) := by decide +kernel
theorem dX3_bestForSecond_15 : decode cX3_bestForSecond 15 = .ok (.istore 4, 2) := by decide +kernel
theorem dX3_bestForSecond_17 : decode cX3_bestForSecond 17 = .ok (.aload_n 0, 1) := by decide +kernel
theorem dX3_bestForSecond_18 : decode cX3_bestForSecond 18 = .ok (.getfield 39, 3) := by decide +kernel
theorem dX3_bestForSecond_21 : decode cX3_bestForSecond 21 = .ok (.iload_n 1, 1) := by decide +kernel
theorem dX3_bestForSecond_22 : decode cX3_bestForSecond 22 = .ok (.iaload, 1) := by decide +kernel
theorem dX3_bestForSecond_23 : decode cX3_bestForSecond 23 = .ok (.aload_n 0, 1) := by decide +kernel
theorem dX3_bestForSecond_24 : decode cX3_bestForSecond 24 = .ok (.getfield 39, 3) := by decide +kernel
theorem dX3_bestForSecond_27 : decode cX3_bestForSecond 27 = .ok (.iload_n 2, 1) := by decide +kernel
theorem dX3_bestForSecond_28 : decode cX3_bestForSecond 28 = .ok (.iconst 0, 1) := by decide +kernel
theorem dX3_bestForSecond_29 : decode cX3_bestForSecond 29 = .ok (.invokestatic 253, 3) := by decide +kernel
theorem dX3_bestForSecond_32 : decode cX3_bestForSecond 32 = .ok (.iaload, 1) := by decide +kernel
theorem dX3_bestForSecond_33 : decode cX3_bestForSecond 33 = .ok (.invokestatic 332, 3) := by decide +kernel
theorem dX3_bestForSecond_36 : decode cX3_bestForSecond 36 = .ok (.istore 5, 2) := by decide +kernel
theorem dX3_bestForSecond_38 : decode cX3_bestForSecond 38 = .ok (.iload 5, 2) := by decide +kernel
theorem dX3_bestForSecond_40 : decode cX3_bestForSecond 40 = .ok (.aload_n 0, 1) := by decide +kernel
theorem dX3_bestForSecond_41 : decode cX3_bestForSecond 41 = .ok (.getfield 39, 3) := by decide +kernel
theorem dX3_bestForSecond_44 : decode cX3_bestForSecond 44 = .ok (.iload_n 2, 1) := by decide +kernel
theorem dX3_bestForSecond_45 : decode cX3_bestForSecond 45 = .ok (.iload 4, 2) := by decide +kernel
theorem dX3_bestForSecond_47 : decode cX3_bestForSecond 47 = .ok (.invokestatic 253, 3) := by decide +kernel
theorem dX3_bestForSecond_50 : decode cX3_bestForSecond 50 = .ok (.iaload, 1) := by decide +kernel
theorem dX3_bestForSecond_51 : decode cX3_bestForSecond 51 = .ok (.invokestatic 332, 3) := by decide +kernel
theorem dX3_bestForSecond_54 : decode cX3_bestForSecond 54 = .ok (.ireturn, 1) := by decide +kernel
theorem dX3_chanceOf_0 : decode cX3_chanceOf 0 = .ok (.lconst 1, 1) := by decide +kernel
theorem dX3_chanceOf_1 : decode cX3_chanceOf 1 = .ok (.lstore_n 3, 1) := by decide +kernel
theorem dX3_chanceOf_2 : decode cX3_chanceOf 2 = .ok (.iconst 0, 1) := by decide +kernel
theorem dX3_chanceOf_3 : decode cX3_chanceOf 3 = .ok (.istore 5, 2) := by decide +kernel
theorem dX3_chanceOf_5 : decode cX3_chanceOf 5 = .ok (.iload 5, 2) := by decide +kernel
theorem dX3_chanceOf_7 : decode cX3_chanceOf 7 = .ok (.aload_n 0, 1) := by decide +kernel
theorem dX3_chanceOf_8 : decode cX3_chanceOf 8 = .ok (.getfield 24, 3) := by decide +kernel
theorem dX3_chanceOf_11 : decode cX3_chanceOf 11 = .ok (.getfield 113, 3) := by decide +kernel
theorem dX3_chanceOf_14 : decode cX3_chanceOf 14 = .ok (.getfield 116, 3) := by decide +kernel
theorem dX3_chanceOf_17 : decode cX3_chanceOf 17 = .ok (.if_icmp .ge 31, 3) := by decide +kernel
theorem dX3_chanceOf_20 : decode cX3_chanceOf 20 = .ok (.lload_n 3, 1) := by decide +kernel
theorem dX3_chanceOf_21 : decode cX3_chanceOf 21 = .ok (.iload_n 1, 1) := by decide +kernel
theorem dX3_chanceOf_22 : decode cX3_chanceOf 22 = .ok (.iload 5, 2) := by decide +kernel
theorem dX3_chanceOf_24 : decode cX3_chanceOf 24 = .ok (.ishr, 1) := by decide +kernel
theorem dX3_chanceOf_25 : decode cX3_chanceOf 25 = .ok (.iconst 1, 1) := by decide +kernel
theorem dX3_chanceOf_26 : decode cX3_chanceOf 26 = .ok (.iand, 1) := by decide +kernel
theorem dX3_chanceOf_27 : decode cX3_chanceOf 27 = .ok (.ifCond .eq 8, 3) := by decide +kernel
theorem dX3_chanceOf_30 : decode cX3_chanceOf 30 = .ok (.iload_n 2, 1) := by decide +kernel
theorem dX3_chanceOf_31 : decode cX3_chanceOf 31 = .ok (.i2l, 1) := by decide +kernel
theorem dX3_chanceOf_32 : decode cX3_chanceOf 32 = .ok (.goto 8, 3) := by decide +kernel
theorem dX3_chanceOf_35 : decode cX3_chanceOf 35 = .ok (.bipush 12, 2) := by decide +kernel
theorem dX3_chanceOf_37 : decode cX3_chanceOf 37 = .ok (.iload_n 2, 1) := by decide +kernel
theorem dX3_chanceOf_38 : decode cX3_chanceOf 38 = .ok (.isub, 1) := by decide +kernel
theorem dX3_chanceOf_39 : decode cX3_chanceOf 39 = .ok (.i2l, 1) := by decide +kernel
theorem dX3_chanceOf_40 : decode cX3_chanceOf 40 = .ok (.lmul, 1) := by decide +kernel
theorem dX3_chanceOf_41 : decode cX3_chanceOf 41 = .ok (.lstore_n 3, 1) := by decide +kernel
theorem dX3_chanceOf_42 : decode cX3_chanceOf 42 = .ok (.iinc 5 1, 3) := by decide +kernel
theorem dX3_chanceOf_45 : decode cX3_chanceOf 45 = .ok (.goto (-40), 3) := by decide +kernel
theorem dX3_chanceOf_48 : decode cX3_chanceOf 48 = .ok (.lload_n 3, 1) := by decide +kernel
theorem dX3_chanceOf_49 : decode cX3_chanceOf 49 = .ok (.lreturn, 1) := by decide +kernel
theorem dX3_givenUnless_0 : decode cX3_givenUnless 0 = .ok (.iconst 0, 1) := by decide +kernel
theorem dX3_givenUnless_1 : decode cX3_givenUnless 1 = .ok (.istore_n 2, 1) := by decide +kernel
theorem dX3_givenUnless_2 : decode cX3_givenUnless 2 = .ok (.iconst 0, 1) := by decide +kernel
theorem dX3_givenUnless_3 : decode cX3_givenUnless 3 = .ok (.istore_n 3, 1) := by decide +kernel
theorem dX3_givenUnless_4 : decode cX3_givenUnless 4 = .ok (.iload_n 3, 1) := by decide +kernel
theorem dX3_givenUnless_5 : decode cX3_givenUnless 5 = .ok (.aload_n 0, 1) := by decide +kernel
theorem dX3_givenUnless_6 : decode cX3_givenUnless 6 = .ok (.getfield 24, 3) := by decide +kernel
theorem dX3_givenUnless_9 : decode cX3_givenUnless 9 = .ok (.getfield 113, 3) := by decide +kernel
theorem dX3_givenUnless_12 : decode cX3_givenUnless 12 = .ok (.getfield 116, 3) := by decide +kernel
theorem dX3_givenUnless_15 : decode cX3_givenUnless 15 = .ok (.if_icmp .ge 24, 3) := by decide +kernel
theorem dX3_givenUnless_18 : decode cX3_givenUnless 18 = .ok (.iload_n 2, 1) := by decide +kernel
theorem dX3_givenUnless_19 : decode cX3_givenUnless 19 = .ok (.aload_n 0, 1) := by decide +kernel
theorem dX3_givenUnless_20 : decode cX3_givenUnless 20 = .ok (.getfield 24, 3) := by decide +kernel
theorem dX3_givenUnless_23 : decode cX3_givenUnless 23 = .ok (.getfield 113, 3) := by decide +kernel
theorem dX3_givenUnless_26 : decode cX3_givenUnless 26 = .ok (.iload_n 1, 1) := by decide +kernel
theorem dX3_givenUnless_27 : decode cX3_givenUnless 27 = .ok (.iload_n 3, 1) := by decide +kernel
theorem dX3_givenUnless_28 : decode cX3_givenUnless 28 = .ok (.invokevirtual 256, 3) := by decide +kernel
theorem dX3_givenUnless_31 : decode cX3_givenUnless 31 = .ok (.iadd, 1) := by decide +kernel
theorem dX3_givenUnless_32 : decode cX3_givenUnless 32 = .ok (.istore_n 2, 1) := by decide +kernel
theorem dX3_givenUnless_33 : decode cX3_givenUnless 33 = .ok (.iinc 3 1, 3) := by decide +kernel
theorem dX3_givenUnless_36 : decode cX3_givenUnless 36 = .ok (.goto (-32), 3) := by decide +kernel
theorem dX3_givenUnless_39 : decode cX3_givenUnless 39 = .ok (.iload_n 2, 1) := by decide +kernel
theorem dX3_givenUnless_40 : decode cX3_givenUnless 40 = .ok (.ireturn, 1) := by decide +kernel
theorem dX3_deedByLot_0 : decode cX3_deedByLot 0 = .ok (.aload_n 0, 1) := by decide +kernel
theorem dX3_deedByLot_1 : decode cX3_deedByLot 1 = .ok (.getfield 24, 3) := by decide +kernel
theorem dX3_deedByLot_4 : decode cX3_deedByLot 4 = .ok (.getfield 113, 3) := by decide +kernel
theorem dX3_deedByLot_7 : decode cX3_deedByLot 7 = .ok (.getfield 116, 3) := by decide +kernel
theorem dX3_deedByLot_10 : decode cX3_deedByLot 10 = .ok (.istore_n 2, 1) := by decide +kernel
theorem dX3_deedByLot_11 : decode cX3_deedByLot 11 = .ok (.iload_n 2, 1) := by decide +kernel
theorem dX3_deedByLot_12 : decode cX3_deedByLot 12 = .ok (.ifCond .gt 11, 3) := by decide +kernel
theorem dX3_deedByLot_15 : decode cX3_deedByLot 15 = .ok (.iconst 4, 1) := by decide +kernel
theorem dX3_deedByLot_16 : decode cX3_deedByLot 16 = .ok (.iconst 0, 1) := by decide +kernel
theorem dX3_deedByLot_17 : decode cX3_deedByLot 17 = .ok (.iconst 0, 1) := by decide +kernel
theorem dX3_deedByLot_18 : decode cX3_deedByLot 18 = .ok (.iconst 0, 1) := by decide +kernel
theorem dX3_deedByLot_19 : decode cX3_deedByLot 19 = .ok (.invokestatic 160, 3) := by decide +kernel
theorem dX3_deedByLot_22 : decode cX3_deedByLot 22 = .ok (.ireturn, 1) := by decide +kernel
theorem dX3_deedByLot_23 : decode cX3_deedByLot 23 = .ok (.iload_n 1, 1) := by decide +kernel
theorem dX3_deedByLot_24 : decode cX3_deedByLot 24 = .ok (.bipush 8, 2) := by decide +kernel
theorem dX3_deedByLot_26 : decode cX3_deedByLot 26 = .ok (.idiv, 1) := by decide +kernel
theorem dX3_deedByLot_27 : decode cX3_deedByLot 27 = .ok (.iload_n 2, 1) := by decide +kernel
theorem dX3_deedByLot_28 : decode cX3_deedByLot 28 = .ok (.irem, 1) := by decide +kernel
theorem dX3_deedByLot_29 : decode cX3_deedByLot 29 = .ok (.istore_n 3, 1) := by decide +kernel
theorem dX3_deedByLot_30 : decode cX3_deedByLot 30 = .ok (.iload_n 1, 1) := by decide +kernel
theorem dX3_deedByLot_31 : decode cX3_deedByLot 31 = .ok (.iconst 4, 1) := by decide +kernel
theorem dX3_deedByLot_32 : decode cX3_deedByLot 32 = .ok (.irem, 1) := by decide +kernel
theorem dX3_deedByLot_33 : decode cX3_deedByLot 33 = .ok (.lookupswitch 63 #[(0, 27), (1, 55)], 27) := by decide +kernel
theorem dX3_deedByLot_60 : decode cX3_deedByLot 60 = .ok (.aload_n 0, 1) := by decide +kernel
theorem dX3_deedByLot_61 : decode cX3_deedByLot 61 = .ok (.getfield 24, 3) := by decide +kernel
theorem dX3_deedByLot_64 : decode cX3_deedByLot 64 = .ok (.getfield 113, 3) := by decide +kernel
theorem dX3_deedByLot_67 : decode cX3_deedByLot 67 = .ok (.getfield 170, 3) := by decide +kernel
theorem dX3_deedByLot_70 : decode cX3_deedByLot 70 = .ok (.iload_n 3, 1) := by decide +kernel
theorem dX3_deedByLot_71 : decode cX3_deedByLot 71 = .ok (.iaload, 1) := by decide +kernel
theorem dX3_deedByLot_72 : decode cX3_deedByLot 72 = .ok (.iconst 3, 1) := by decide +kernel
theorem dX3_deedByLot_73 : decode cX3_deedByLot 73 = .ok (.if_icmp .ge 7, 3) := by decide +kernel
theorem dX3_deedByLot_76 : decode cX3_deedByLot 76 = .ok (.iconst 1, 1) := by decide +kernel
theorem dX3_deedByLot_77 : decode cX3_deedByLot 77 = .ok (.goto 4, 3) := by decide +kernel
theorem dX3_deedByLot_80 : decode cX3_deedByLot 80 = .ok (.iconst 2, 1) := by decide +kernel
theorem dX3_deedByLot_81 : decode cX3_deedByLot 81 = .ok (.iload_n 3, 1) := by decide +kernel
theorem dX3_deedByLot_82 : decode cX3_deedByLot 82 = .ok (.iconst 0, 1) := by decide +kernel
theorem dX3_deedByLot_83 : decode cX3_deedByLot 83 = .ok (.iconst 0, 1) := by decide +kernel
theorem dX3_deedByLot_84 : decode cX3_deedByLot 84 = .ok (.invokestatic 160, 3) := by decide +kernel
theorem dX3_deedByLot_87 : decode cX3_deedByLot 87 = .ok (.ireturn, 1) := by decide +kernel
theorem dX3_deedByLot_88 : decode cX3_deedByLot 88 = .ok (.iconst 2, 1) := by decide +kernel
theorem dX3_deedByLot_89 : decode cX3_deedByLot 89 = .ok (.iload_n 3, 1) := by decide +kernel
theorem dX3_deedByLot_90 : decode cX3_deedByLot 90 = .ok (.iconst 0, 1) := by decide +kernel
theorem dX3_deedByLot_91 : decode cX3_deedByLot 91 = .ok (.iconst 0, 1) := by decide +kernel
theorem dX3_deedByLot_92 : decode cX3_deedByLot 92 = .ok (.invokestatic 160, 3) := by decide +kernel
theorem dX3_deedByLot_95 : decode cX3_deedByLot 95 = .ok (.ireturn, 1) := by decide +kernel
theorem dX3_deedByLot_96 : decode cX3_deedByLot 96 = .ok (.aload_n 0, 1) := by decide +kernel
theorem dX3_deedByLot_97 : decode cX3_deedByLot 97 = .ok (.getfield 24, 3) := by decide +kernel
theorem dX3_deedByLot_100 : decode cX3_deedByLot 100 = .ok (.getfield 154, 3) := by decide +kernel
theorem dX3_deedByLot_103 : decode cX3_deedByLot 103 = .ok (.bipush 99, 2) := by decide +kernel
theorem dX3_deedByLot_105 : decode cX3_deedByLot 105 = .ok (.if_icmp .ge 7, 3) := by decide +kernel
theorem dX3_deedByLot_108 : decode cX3_deedByLot 108 = .ok (.iconst 0, 1) := by decide +kernel
theorem dX3_deedByLot_109 : decode cX3_deedByLot 109 = .ok (.goto 4, 3) := by decide +kernel
theorem dX3_deedByLot_112 : decode cX3_deedByLot 112 = .ok (.iconst 4, 1) := by decide +kernel
theorem dX3_deedByLot_113 : decode cX3_deedByLot 113 = .ok (.iconst 0, 1) := by decide +kernel
theorem dX3_deedByLot_114 : decode cX3_deedByLot 114 = .ok (.iconst 0, 1) := by decide +kernel
theorem dX3_deedByLot_115 : decode cX3_deedByLot 115 = .ok (.iconst 0, 1) := by decide +kernel
theorem dX3_deedByLot_116 : decode cX3_deedByLot 116 = .ok (.invokestatic 160, 3) := by decide +kernel
theorem dX3_deedByLot_119 : decode cX3_deedByLot 119 = .ok (.ireturn, 1) := by decide +kernel
end
section
theorem dX4_init_0 : decode cX4_init 0 = .ok (.aload_n 0, 1) := by decide +kernel
theorem dX4_init_1 : decode cX4_init 1 = .ok (.invokespecial 1, 3) := by decide +kernel
theorem dX4_init_4 : decode cX4_init 4 = .ok (.aload_n 0, 1) := by decide +kernel
theorem dX4_init_5 : decode cX4_init 5 = .ok (.sipush 240, 3) := by decide +kernel
theorem dX4_init_8 : decode cX4_init 8 = .ok (.newarray .int, 2) := by decide +kernel
theorem dX4_init_10 : decode cX4_init 10 = .ok (.putfield 7, 3) := by decide +kernel
theorem dX4_init_13 : decode cX4_init 13 = .ok (.aload_n 0, 1) := by decide +kernel
theorem dX4_init_14 : decode cX4_init 14 = .ok (.bipush 6, 2) := by decide +kernel
theorem dX4_init_16 : decode cX4_init 16 = .ok (.newarray .int, 2) := by decide +kernel
theorem dX4_init_18 : decode cX4_init 18 = .ok (.putfield 13, 3) := by decide +kernel
theorem dX4_init_21 : decode cX4_init 21 = .ok (.aload_n 0, 1) := by decide +kernel
theorem dX4_init_22 : decode cX4_init 22 = .ok (.sipush 240, 3) := by decide +kernel
theorem dX4_init_25 : decode cX4_init 25 = .ok (.newarray .int, 2) := by decide +kernel
theorem dX4_init_27 : decode cX4_init 27 = .ok (.putfield 16, 3) := by decide +kernel
theorem dX4_init_30 : decode cX4_init 30 = .ok (.aload_n 0, 1) := by decide +kernel
theorem dX4_init_31 : decode cX4_init 31 = .ok (.iconst 4, 1) := by decide +kernel
theorem dX4_init_32 : decode cX4_init 32 = .ok (.newarray .int, 2) := by decide +kernel
theorem dX4_init_34 : decode cX4_init 34 = .ok (.putfield 19, 3) := by decide +kernel
theorem dX4_init_37 : decode cX4_init 37 = .ok (.aload_n 0, 1) := by decide +kernel
theorem dX4_init_38 : decode cX4_init 38 = .ok (.lconst 1, 1) := by decide +kernel
theorem dX4_init_39 : decode cX4_init 39 = .ok (.putfield 22, 3) := by decide +kernel
theorem dX4_init_42 : decode cX4_init 42 = .ok (.aload_n 0, 1) := by decide +kernel
theorem dX4_init_43 : decode cX4_init 43 = .ok (.bipush 6, 2) := by decide +kernel
theorem dX4_init_45 : decode cX4_init 45 = .ok (.newarray .int, 2) := by decide +kernel
theorem dX4_init_47 : decode cX4_init 47 = .ok (.putfield 26, 3) := by decide +kernel
theorem dX4_init_50 : decode cX4_init 50 = .ok (.aload_n 0, 1) := by decide +kernel
theorem dX4_init_51 : decode cX4_init 51 = .ok (.bipush 6, 2) := by decide +kernel
theorem dX4_init_53 : decode cX4_init 53 = .ok (.newarray .int, 2) := by decide +kernel
theorem dX4_init_55 : decode cX4_init 55 = .ok (.putfield 29, 3) := by decide +kernel
theorem dX4_init_58 : decode cX4_init 58 = .ok (.aload_n 0, 1) := by decide +kernel
theorem dX4_init_59 : decode cX4_init 59 = .ok (.bipush 6, 2) := by decide +kernel
theorem dX4_init_61 : decode cX4_init 61 = .ok (.newarray .int, 2) := by decide +kernel
theorem dX4_init_63 : decode cX4_init 63 = .ok (.putfield 32, 3) := by decide +kernel
theorem dX4_init_66 : decode cX4_init 66 = .ok (.aload_n 0, 1) := by decide +kernel
theorem dX4_init_67 : decode cX4_init 67 = .ok (.bipush 6, 2) := by decide +kernel
theorem dX4_init_69 : decode cX4_init 69 = .ok (.newarray .int, 2) := by decide +kernel
theorem dX4_init_71 : decode cX4_init 71 = .ok (.putfield 35, 3) := by decide +kernel
theorem dX4_init_74 : decode cX4_init 74 = .ok (.aload_n 0, 1) := by decide +kernel
theorem dX4_init_75 : decode cX4_init 75 = .ok (.bipush 13, 2) := by decide +kernel
theorem dX4_init_77 : decode cX4_init 77 = .ok (.newarray .int, 2) := by decide +kernel
theorem dX4_init_79 : decode cX4_init 79 = .ok (.putfield 38, 3) := by decide +kernel
theorem dX4_init_82 : decode cX4_init 82 = .ok (.aload_n 0, 1) := by decide +kernel
theorem dX4_init_83 : decode cX4_init 83 = .ok (.bipush 13, 2) := by decide +kernel
theorem dX4_init_85 : decode cX4_init 85 = .ok (.newarray .int, 2) := by decide +kernel
theorem dX4_init_87 : decode cX4_init 87 = .ok (.putfield 41, 3) := by decide +kernel
theorem dX4_init_90 : decode cX4_init 90 = .ok (.aload_n 0, 1) := by decide +kernel
theorem dX4_init_91 : decode cX4_init 91 = .ok (.bipush 6, 2) := by decide +kernel
theorem dX4_init_93 : decode cX4_init 93 = .ok (.newarray .int, 2) := by decide +kernel
theorem dX4_init_95 : decode cX4_init 95 = .ok (.putfield 44, 3) := by decide +kernel
theorem dX4_init_98 : decode cX4_init 98 = .ok (.aload_n 0, 1) := by decide +kernel
theorem dX4_init_99 : decode cX4_init 99 = .ok (.sipush 520, 3) := by decide +kernel
theorem dX4_init_102 : decode cX4_init 102 = .ok (.newarray .int, 2) := by decide +kernel
theorem dX4_init_104 : decode cX4_init 104 = .ok (.putfield 47, 3) := by decide +kernel
theorem dX4_init_107 : decode cX4_init 107 = .ok (.aload_n 0, 1) := by decide +kernel
theorem dX4_init_108 : decode cX4_init 108 = .ok (.sipush 1602, 3) := by decide +kernel
theorem dX4_init_111 : decode cX4_init 111 = .ok (.newarray .int, 2) := by decide +kernel
theorem dX4_init_113 : decode cX4_init 113 = .ok (.putfield 50, 3) := by decide +kernel
theorem dX4_init_116 : decode cX4_init 116 = .ok (.aload_n 0, 1) := by decide +kernel
theorem dX4_init_117 : decode cX4_init 117 = .ok (.bipush 30, 2) := by decide +kernel
theorem dX4_init_119 : decode cX4_init 119 = .ok (.newarray .int, 2) := by decide +kernel
theorem dX4_init_121 : decode cX4_init 121 = .ok (.putfield 53, 3) := by decide +kernel
theorem dX4_init_124 : decode cX4_init 124 = .ok (.aload_n 0, 1) := by decide +kernel
theorem dX4_init_125 : decode cX4_init 125 = .ok (.bipush 16, 2) := by decide +kernel
theorem dX4_init_127 : decode cX4_init 127 = .ok (.newarray .int, 2) := by decide +kernel
theorem dX4_init_129 : decode cX4_init 129 = .ok (.putfield 56, 3) := by decide +kernel
theorem dX4_init_132 : decode cX4_init 132 = .ok (.aload_n 0, 1) := by decide +kernel
theorem dX4_init_133 : decode cX4_init 133 = .ok (.bipush 16, 2) := by decide +kernel
theorem dX4_init_135 : decode cX4_init 135 = .ok (.newarray .int, 2) := by decide +kernel
theorem dX4_init_137 : decode cX4_init 137 = .ok (.putfield 59, 3) := by decide +kernel
theorem dX4_init_140 : decode cX4_init 140 = .ok (.iconst 0, 1) := by decide +kernel
theorem dX4_init_141 : decode cX4_init 141 = .ok (.istore_n 1, 1) := by decide +kernel
theorem dX4_init_142 : decode cX4_init 142 = .ok (.iload_n 1, 1) := by decide +kernel
theorem dX4_init_143 : decode cX4_init 143 = .ok (.bipush 6, 2) := by decide +kernel
theorem dX4_init_145 : decode cX4_init 145 = .ok (.if_icmp .ge 16, 3) := by decide +kernel
theorem dX4_init_148 : decode cX4_init 148 = .ok (.aload_n 0, 1) := by decide +kernel
theorem dX4_init_149 : decode cX4_init 149 = .ok (.getfield 13, 3) := by decide +kernel
theorem dX4_init_152 : decode cX4_init 152 = .ok (.iload_n 1, 1) := by decide +kernel
theorem dX4_init_153 : decode cX4_init 153 = .ok (.iconst (-1), 1) := by decide +kernel
theorem dX4_init_154 : decode cX4_init 154 = .ok (.iastore, 1) := by decide +kernel
theorem dX4_init_155 : decode cX4_init 155 = .ok (.iinc 1 1, 3) := by decide +kernel
theorem dX4_init_158 : decode cX4_init 158 = .ok (.goto (-16), 3) := by decide +kernel
theorem dX4_init_161 : decode cX4_init 161 = .ok (.iconst 0, 1) := by decide +kernel
theorem dX4_init_162 : decode cX4_init 162 = .ok (.istore_n 1, 1) := by decide +kernel
theorem dX4_init_163 : decode cX4_init 163 = .ok (.iload_n 1, 1) := by decide +kernel
theorem dX4_init_164 : decode cX4_init 164 = .ok (.iconst 4, 1) := by decide +kernel
theorem dX4_init_165 : decode cX4_init 165 = .ok (.if_icmp .ge 16, 3) := by decide +kernel
theorem dX4_init_168 : decode cX4_init 168 = .ok (.aload_n 0, 1) := by decide +kernel
theorem dX4_init_169 : decode cX4_init 169 = .ok (.getfield 19, 3) := by decide +kernel
theorem dX4_init_172 : decode cX4_init 172 = .ok (.iload_n 1, 1) := by decide +kernel
theorem dX4_init_173 : decode cX4_init 173 = .ok (.iconst (-1), 1) := by decide +kernel
theorem dX4_init_174 : decode cX4_init 174 = .ok (.iastore, 1) := by decide +kernel
theorem dX4_init_175 : decode cX4_init 175 = .ok (.iinc 1 1, 3) := by decide +kernel
theorem dX4_init_178 : decode cX4_init 178 = .ok (.goto (-15), 3) := by decide +kernel
theorem dX4_init_181 : decode cX4_init 181 = .ok (.aload_n 0, 1) := by decide +kernel
theorem dX4_init_182 : decode cX4_init 182 = .ok (.invokevirtual 62, 3) := by decide +kernel
theorem dX4_init_185 : decode cX4_init 185 = .ok (.return_, 1) := by decide +kernel
theorem dX4_in_0 : decode cX4_in 0 = .ok (.lload_n 0, 1) := by decide +kernel
theorem dX4_in_1 : decode cX4_in 1 = .ok (.lload_n 2, 1) := by decide +kernel
theorem dX4_in_2 : decode cX4_in 2 = .ok (.lcmp, 1) := by decide +kernel
theorem dX4_in_3 : decode cX4_in 3 = .ok (.ifCond .lt 14, 3) := by decide +kernel
theorem dX4_in_6 : decode cX4_in 6 = .ok (.lload_n 0, 1) := by decide +kernel
theorem dX4_in_7 : decode cX4_in 7 = .ok (.lload 4, 2) := by decide +kernel
theorem dX4_in_9 : decode cX4_in 9 = .ok (.lcmp, 1) := by decide +kernel
theorem dX4_in_10 : decode cX4_in 10 = .ok (.ifCond .gt 7, 3) := by decide +kernel
theorem dX4_in_13 : decode cX4_in 13 = .ok (.iconst 1, 1) := by decide +kernel
theorem dX4_in_14 : decode cX4_in 14 = .ok (.goto 4, 3) := by decide +kernel
theorem dX4_in_17 : decode cX4_in 17 = .ok (.iconst 0, 1) := by decide +kernel
theorem dX4_in_18 : decode cX4_in 18 = .ok (.ireturn, 1) := by decide +kernel
theorem dX4_has_0 : decode cX4_has 0 = .ok (.iload_n 0, 1) := by decide +kernel
theorem dX4_has_1 : decode cX4_has 1 = .ok (.iload_n 1, 1) := by decide +kernel
theorem dX4_has_2 : decode cX4_has 2 = .ok (.ishr, 1) := by decide +kernel
theorem dX4_has_3 : decode cX4_has 3 = .ok (.iconst 1, 1) := by decide +kernel
theorem dX4_has_4 : decode cX4_has 4 = .ok (.iand, 1) := by decide +kernel
theorem dX4_has_5 : decode cX4_has 5 = .ok (.iconst 1, 1) := by decide +kernel
theorem dX4_has_6 : decode cX4_has 6 = .ok (.if_icmp .ne 7, 3) := by decide +kernel
theorem dX4_has_9 : decode cX4_has 9 = .ok (.iconst 1, 1) := by decide +kernel
theorem dX4_has_10 : decode cX4_has 10 = .ok (.goto 4, 3) := by decide +kernel
theorem dX4_has_13 : decode cX4_has 13 = .ok (.iconst 0, 1) := by decide +kernel
theorem dX4_has_14 : decode cX4_has 14 = .ok (.ireturn, 1) := by decide +kernel
theorem dX4_found_0 : decode cX4_found 0 = .ok (.aload_n 0, 1) := by decide +kernel
theorem dX4_found_1 : decode cX4_found 1 = .ok (.iload_n 1, 1) := by decide +kernel
theorem dX4_found_2 : decode cX4_found 2 = .ok (.putfield 65, 3) := by decide +kernel
theorem dX4_found_5 : decode cX4_found 5 = .ok (.aload_n 0, 1) := by decide +kernel
theorem dX4_found_6 : decode cX4_found 6 = .ok (.getfield 26, 3) := by decide +kernel
theorem dX4_found_9 : decode cX4_found 9 = .ok (.iload_n 1, 1) := by decide +kernel
theorem dX4_found_10 : decode cX4_found 10 = .ok (.dup2, 1) := by decide +kernel
theorem dX4_found_11 : decode cX4_found 11 = .ok (.iaload, 1) := by decide +kernel
theorem dX4_found_12 : decode cX4_found 12 = .ok (.iconst 1, 1) := by decide +kernel
theorem dX4_found_13 : decode cX4_found 13 = .ok (.iadd, 1) := by decide +kernel
theorem dX4_found_14 : decode cX4_found 14 = .ok (.iastore, 1) := by decide +kernel
theorem dX4_found_15 : decode cX4_found 15 = .ok (.bipush (-3), 2) := by decide +kernel
theorem dX4_found_17 : decode cX4_found 17 = .ok (.ireturn, 1) := by decide +kernel
theorem dX4_tell_0 : decode cX4_tell 0 = .ok (.aload_n 0, 1) := by decide +kernel
theorem dX4_tell_1 : decode cX4_tell 1 = .ok (.iload_n 1, 1) := by decide +kernel
theorem dX4_tell_2 : decode cX4_tell 2 = .ok (.putfield 69, 3) := by decide +kernel
theorem dX4_tell_5 : decode cX4_tell 5 = .ok (.iconst 1, 1) := by decide +kernel
theorem dX4_tell_6 : decode cX4_tell 6 = .ok (.ireturn, 1) := by decide +kernel
theorem dX4_answer_0 : decode cX4_answer 0 = .ok (.aload_n 0, 1) := by decide +kernel
theorem dX4_answer_1 : decode cX4_answer 1 = .ok (.iload_n 2, 1) := by decide +kernel
theorem dX4_answer_2 : decode cX4_answer 2 = .ok (.putfield 69, 3) := by decide +kernel
theorem dX4_answer_5 : decode cX4_answer 5 = .ok (.iload_n 1, 1) := by decide +kernel
theorem dX4_answer_6 : decode cX4_answer 6 = .ok (.ireturn, 1) := by decide +kernel
theorem dX4_isRow_0 : decode cX4_isRow 0 = .ok (.iload_n 0, 1) := by decide +kernel
theorem dX4_isRow_1 : decode cX4_isRow 1 = .ok (.i2l, 1) := by decide +kernel
theorem dX4_isRow_2 : decode cX4_isRow 2 = .ok (.lconst 0, 1) := by decide +kernel
theorem dX4_isRow_3 : decode cX4_isRow 3 = .ok (.ldc2_w 72, 3) := by decide +kernel
theorem dX4_isRow_6 : decode cX4_isRow 6 = .ok (.invokestatic 74, 3) := by decide +kernel
theorem dX4_isRow_9 : decode cX4_isRow 9 = .ok (.ireturn, 1) := by decide +kernel
theorem dX4_isText_0 : decode cX4_isText 0 = .ok (.iload_n 0, 1) := by decide +kernel
theorem dX4_isText_1 : decode cX4_isText 1 = .ok (.i2l, 1) := by decide +kernel
theorem dX4_isText_2 : decode cX4_isText 2 = .ok (.lconst 0, 1) := by decide +kernel
theorem dX4_isText_3 : decode cX4_isText 3 = .ok (.ldc2_w 78, 3) := by decide +kernel
theorem dX4_isText_6 : decode cX4_isText 6 = .ok (.invokestatic 74, 3) := by decide +kernel
theorem dX4_isText_9 : decode cX4_isText 9 = .ok (.ireturn, 1) := by decide +kernel
theorem dX4_row_0 : decode cX4_row 0 = .ok (.iload_n 1, 1) := by decide +kernel
theorem dX4_row_1 : decode cX4_row 1 = .ok (.invokestatic 80, 3) := by decide +kernel
theorem dX4_row_4 : decode cX4_row 4 = .ok (.ifCond .eq 9, 3) := by decide +kernel
theorem dX4_row_7 : decode cX4_row 7 = .ok (.iload_n 2, 1) := by decide +kernel
theorem dX4_row_8 : decode cX4_row 8 = .ok (.bipush 40, 2) := by decide +kernel
theorem dX4_row_10 : decode cX4_row 10 = .ok (.if_icmp .le 5, 3) := by decide +kernel
theorem dX4_row_13 : decode cX4_row 13 = .ok (.iconst (-1), 1) := by decide +kernel
theorem dX4_row_14 : decode cX4_row 14 = .ok (.ireturn, 1) := by decide +kernel
theorem dX4_row_15 : decode cX4_row 15 = .ok (.iload_n 2, 1) := by decide +kernel
theorem dX4_row_16 : decode cX4_row 16 = .ok (.ifCond .ge 9, 3) := by decide +kernel
theorem dX4_row_19 : decode cX4_row 19 = .ok (.aload_n 0, 1) := by decide +kernel
theorem dX4_row_20 : decode cX4_row 20 = .ok (.iconst 5, 1) := by decide +kernel
theorem dX4_row_21 : decode cX4_row 21 = .ok (.invokevirtual 84, 3) := by decide +kernel
theorem dX4_row_24 : decode cX4_row 24 = .ok (.ireturn, 1) := by decide +kernel
theorem dX4_row_25 : decode cX4_row 25 = .ok (.aload_n 0, 1) := by decide +kernel
theorem dX4_row_26 : decode cX4_row 26 = .ok (.getfield 13, 3) := by decide +kernel
theorem dX4_row_29 : decode cX4_row 29 = .ok (.iload_n 1, 1) := by decide +kernel
theorem dX4_row_30 : decode cX4_row 30 = .ok (.iload_n 2, 1) := by decide +kernel
theorem dX4_row_31 : decode cX4_row 31 = .ok (.iastore, 1) := by decide +kernel
theorem dX4_row_32 : decode cX4_row 32 = .ok (.iconst 0, 1) := by decide +kernel
theorem dX4_row_33 : decode cX4_row 33 = .ok (.istore_n 3, 1) := by decide +kernel
theorem dX4_row_34 : decode cX4_row 34 = .ok (.iload_n 3, 1) := by decide +kernel
theorem dX4_row_35 : decode cX4_row 35 = .ok (.bipush 40, 2) := by decide +kernel
theorem dX4_row_37 : decode cX4_row 37 = .ok (.if_icmp .ge 21, 3) := by decide +kernel
theorem dX4_row_40 : decode cX4_row 40 = .ok (.aload_n 0, 1) := by decide +kernel
theorem dX4_row_41 : decode cX4_row 41 = .ok (.getfield 7, 3) := by decide +kernel
theorem dX4_row_44 : decode cX4_row 44 = .ok (.bipush 40, 2) := by decide +kernel
theorem dX4_row_46 : decode cX4_row 46 = .ok (.iload_n 1, 1) := by decide +kernel
theorem dX4_row_47 : decode cX4_row 47 = .ok (.imul, 1) := by decide +kernel
theorem dX4_row_48 : decode cX4_row 48 = .ok (.iload_n 3, 1) := by decide +kernel
theorem dX4_row_49 : decode cX4_row 49 = .ok (.iadd, 1) := by decide +kernel
theorem dX4_row_50 : decode cX4_row 50 = .ok (.iconst 0, 1) := by decide +kernel
theorem dX4_row_51 : decode cX4_row 51 = .ok (.iastore, 1) := by decide +kernel
theorem dX4_row_52 : decode cX4_row 52 = .ok (.iinc 3 1, 3) := by decide +kernel
theorem dX4_row_55 : decode cX4_row 55 = .ok (.goto (-21), 3) := by decide +kernel
theorem dX4_row_58 : decode cX4_row 58 = .ok (.iload_n 2, 1) := by decide +kernel
theorem dX4_row_59 : decode cX4_row 59 = .ok (.ireturn, 1) := by decide +kernel
theorem dX4_lay_0 : decode cX4_lay 0 = .ok (.iload_n 1, 1) := by decide +kernel
theorem dX4_lay_1 : decode cX4_lay 1 = .ok (.invokestatic 80, 3) := by decide +kernel
theorem dX4_lay_4 : decode cX4_lay 4 = .ok (.ifCond .ne 5, 3) := by decide +kernel
theorem dX4_lay_7 : decode cX4_lay 7 = .ok (.iconst (-1), 1) := by decide +kernel
theorem dX4_lay_8 : decode cX4_lay 8 = .ok (.ireturn, 1) := by decide +kernel
theorem dX4_lay_9 : decode cX4_lay 9 = .ok (.aload_n 0, 1) := by decide +kernel
theorem dX4_lay_10 : decode cX4_lay 10 = .ok (.getfield 13, 3) := by decide +kernel
theorem dX4_lay_13 : decode cX4_lay 13 = .ok (.iload_n 1, 1) := by decide +kernel
theorem dX4_lay_14 : decode cX4_lay 14 = .ok (.iaload, 1) := by decide +kernel
theorem dX4_lay_15 : decode cX4_lay 15 = .ok (.ifCond .ge 9, 3) := by decide +kernel
theorem dX4_lay_18 : decode cX4_lay 18 = .ok (.aload_n 0, 1) := by decide +kernel
theorem dX4_lay_19 : decode cX4_lay 19 = .ok (.iconst 1, 1) := by decide +kernel
theorem dX4_lay_20 : decode cX4_lay 20 = .ok (.invokevirtual 84, 3) := by decide +kernel
theorem dX4_lay_23 : decode cX4_lay 23 = .ok (.ireturn, 1) := by decide +kernel
theorem dX4_lay_24 : decode cX4_lay 24 = .ok (.iload_n 2, 1) := by decide +kernel
theorem dX4_lay_25 : decode cX4_lay 25 = .ok (.i2l, 1) := by decide +kernel
theorem dX4_lay_26 : decode cX4_lay 26 = .ok (.lconst 0, 1) := by decide +kernel
theorem dX4_lay_27 : decode cX4_lay 27 = .ok (.aload_n 0, 1) := by decide +kernel
theorem dX4_lay_28 : decode cX4_lay 28 = .ok (.getfield 13, 3) := by decide +kernel
theorem dX4_lay_31 : decode cX4_lay 31 = .ok (.iload_n 1, 1) := by decide +kernel
theorem dX4_lay_32 : decode cX4_lay 32 = .ok (.iaload, 1) := by decide +kernel
theorem dX4_lay_33 : decode cX4_lay 33 = .ok (.iconst 1, 1) := by decide +kernel
theorem dX4_lay_34 : decode cX4_lay 34 = .ok (.isub, 1) := by decide +kernel
theorem dX4_lay_35 : decode cX4_lay 35 = .ok (.i2l, 1) := by decide +kernel
theorem dX4_lay_36 : decode cX4_lay 36 = .ok (.invokestatic 74, 3) := by decide +kernel
theorem dX4_lay_39 : decode cX4_lay 39 = .ok (.ifCond .ne 9, 3) := by decide +kernel
theorem dX4_lay_42 : decode cX4_lay 42 = .ok (.aload_n 0, 1) := by decide +kernel
theorem dX4_lay_43 : decode cX4_lay 43 = .ok (.iconst 2, 1) := by decide +kernel
theorem dX4_lay_44 : decode cX4_lay 44 = .ok (.invokevirtual 84, 3) := by decide +kernel
theorem dX4_lay_47 : decode cX4_lay 47 = .ok (.ireturn, 1) := by decide +kernel
theorem dX4_lay_48 : decode cX4_lay 48 = .ok (.aload_n 0, 1) := by decide +kernel
theorem dX4_lay_49 : decode cX4_lay 49 = .ok (.getfield 7, 3) := by decide +kernel
theorem dX4_lay_52 : decode cX4_lay 52 = .ok (.bipush 40, 2) := by decide +kernel
theorem dX4_lay_54 : decode cX4_lay 54 = .ok (.iload_n 1, 1) := by decide +kernel
theorem dX4_lay_55 : decode cX4_lay 55 = .ok (.imul, 1) := by decide +kernel
theorem dX4_lay_56 : decode cX4_lay 56 = .ok (.iload_n 2, 1) := by decide +kernel
theorem dX4_lay_57 : decode cX4_lay 57 = .ok (.iadd, 1) := by decide +kernel
theorem dX4_lay_58 : decode cX4_lay 58 = .ok (.iaload, 1) := by decide +kernel
theorem dX4_lay_59 : decode cX4_lay 59 = .ok (.istore 4, 2) := by decide +kernel
theorem dX4_lay_61 : decode cX4_lay 61 = .ok (.aload_n 0, 1) := by decide +kernel
theorem dX4_lay_62 : decode cX4_lay 62 = .ok (.getfield 7, 3) := by decide +kernel
theorem dX4_lay_65 : decode cX4_lay 65 = .ok (.bipush 40, 2) := by decide +kernel
theorem dX4_lay_67 : decode cX4_lay 67 = .ok (.iload_n 1, 1) := by decide +kernel
theorem dX4_lay_68 : decode cX4_lay 68 = .ok (.imul, 1) := by decide +kernel
theorem dX4_lay_69 : decode cX4_lay 69 = .ok (.iload_n 2, 1) := by decide +kernel
theorem dX4_lay_70 : decode cX4_lay 70 = .ok (.iadd, 1) := by decide +kernel
theorem dX4_lay_71 : decode cX4_lay 71 = .ok (.iload_n 3, 1) := by decide +kernel
theorem dX4_lay_72 : decode cX4_lay 72 = .ok (.iastore, 1) := by decide +kernel
theorem dX4_lay_73 : decode cX4_lay 73 = .ok (.aload_n 0, 1) := by decide +kernel
theorem dX4_lay_74 : decode cX4_lay 74 = .ok (.iload 4, 2) := by decide +kernel
theorem dX4_lay_76 : decode cX4_lay 76 = .ok (.invokevirtual 88, 3) := by decide +kernel
theorem dX4_lay_79 : decode cX4_lay 79 = .ok (.ireturn, 1) := by decide +kernel
theorem dX4_at_0 : decode cX4_at 0 = .ok (.iload_n 1, 1) := by decide +kernel
theorem dX4_at_1 : decode cX4_at 1 = .ok (.invokestatic 80, 3) := by decide +kernel
theorem dX4_at_4 : decode cX4_at 4 = .ok (.ifCond .ne 5, 3) := by decide +kernel
theorem dX4_at_7 : decode cX4_at 7 = .ok (.iconst (-1), 1) := by decide +kernel
theorem dX4_at_8 : decode cX4_at 8 = .ok (.ireturn, 1) := by decide +kernel
theorem dX4_at_9 : decode cX4_at 9 = .ok (.aload_n 0, 1) := by decide +kernel
theorem dX4_at_10 : decode cX4_at 10 = .ok (.getfield 13, 3) := by decide +kernel
theorem dX4_at_13 : decode cX4_at 13 = .ok (.iload_n 1, 1) := by decide +kernel
theorem dX4_at_14 : decode cX4_at 14 = .ok (.iaload, 1) := by decide +kernel
theorem dX4_at_15 : decode cX4_at 15 = .ok (.ifCond .ge 9, 3) := by decide +kernel
theorem dX4_at_18 : decode cX4_at 18 = .ok (.aload_n 0, 1) := by decide +kernel
theorem dX4_at_19 : decode cX4_at 19 = .ok (.iconst 1, 1) := by decide +kernel
theorem dX4_at_20 : decode cX4_at 20 = .ok (.invokevirtual 84, 3) := by decide +kernel
theorem dX4_at_23 : decode cX4_at 23 = .ok (.ireturn, 1) := by decide +kernel
theorem dX4_at_24 : decode cX4_at 24 = .ok (.iload_n 2, 1) := by decide +kernel
theorem dX4_at_25 : decode cX4_at 25 = .ok (.i2l, 1) := by decide +kernel
theorem dX4_at_26 : decode cX4_at 26 = .ok (.lconst 0, 1) := by decide +kernel
theorem dX4_at_27 : decode cX4_at 27 = .ok (.aload_n 0, 1) := by decide +kernel
theorem dX4_at_28 : decode cX4_at 28 = .ok (.getfield 13, 3) := by decide +kernel
theorem dX4_at_31 : decode cX4_at 31 = .ok (.iload_n 1, 1) := by decide +kernel
theorem dX4_at_32 : decode cX4_at 32 = .ok (.iaload, 1) := by decide +kernel
theorem dX4_at_33 : decode cX4_at 33 = .ok (.iconst 1, 1) := by decide +kernel
theorem dX4_at_34 : decode cX4_at 34 = .ok (.isub, 1) := by decide +kernel
theorem dX4_at_35 : decode cX4_at 35 = .ok (.i2l, 1) := by decide +kernel
theorem dX4_at_36 : decode cX4_at 36 = .ok (.invokestatic 74, 3) := by decide +kernel
theorem dX4_at_39 : decode cX4_at 39 = .ok (.ifCond .eq 21, 3) := by decide +kernel
theorem dX4_at_42 : decode cX4_at 42 = .ok (.aload_n 0, 1) := by decide +kernel
theorem dX4_at_43 : decode cX4_at 43 = .ok (.aload_n 0, 1) := by decide +kernel
theorem dX4_at_44 : decode cX4_at 44 = .ok (.getfield 7, 3) := by decide +kernel
theorem dX4_at_47 : decode cX4_at 47 = .ok (.bipush 40, 2) := by decide +kernel
theorem dX4_at_49 : decode cX4_at 49 = .ok (.iload_n 1, 1) := by decide +kernel
theorem dX4_at_50 : decode cX4_at 50 = .ok (.imul, 1) := by decide +kernel
theorem dX4_at_51 : decode cX4_at 51 = .ok (.iload_n 2, 1) := by decide +kernel
theorem dX4_at_52 : decode cX4_at 52 = .ok (.iadd, 1) := by decide +kernel
theorem dX4_at_53 : decode cX4_at 53 = .ok (.iaload, 1) := by decide +kernel
theorem dX4_at_54 : decode cX4_at 54 = .ok (.invokevirtual 88, 3) := by decide +kernel
theorem dX4_at_57 : decode cX4_at 57 = .ok (.goto 8, 3) := by decide +kernel
theorem dX4_at_60 : decode cX4_at 60 = .ok (.aload_n 0, 1) := by decide +kernel
theorem dX4_at_61 : decode cX4_at 61 = .ok (.iconst 2, 1) := by decide +kernel
theorem dX4_at_62 : decode cX4_at 62 = .ok (.invokevirtual 84, 3) := by decide +kernel
theorem dX4_at_65 : decode cX4_at 65 = .ok (.ireturn, 1) := by decide +kernel
theorem dX4_tear_0 : decode cX4_tear 0 = .ok (.iload_n 1, 1) := by decide +kernel
theorem dX4_tear_1 : decode cX4_tear 1 = .ok (.invokestatic 80, 3) := by decide +kernel
theorem dX4_tear_4 : decode cX4_tear 4 = .ok (.ifCond .ne 5, 3) := by decide +kernel
theorem dX4_tear_7 : decode cX4_tear 7 = .ok (.iconst (-1), 1) := by decide +kernel
theorem dX4_tear_8 : decode cX4_tear 8 = .ok (.ireturn, 1) := by decide +kernel
theorem dX4_tear_9 : decode cX4_tear 9 = .ok (.aload_n 0, 1) := by decide +kernel
theorem dX4_tear_10 : decode cX4_tear 10 = .ok (.getfield 13, 3) := by decide +kernel
theorem dX4_tear_13 : decode cX4_tear 13 = .ok (.iload_n 1, 1) := by decide +kernel
theorem dX4_tear_14 : decode cX4_tear 14 = .ok (.iaload, 1) := by decide +kernel
theorem dX4_tear_15 : decode cX4_tear 15 = .ok (.ifCond .ge 9, 3) := by decide +kernel
theorem dX4_tear_18 : decode cX4_tear 18 = .ok (.aload_n 0, 1) := by decide +kernel
theorem dX4_tear_19 : decode cX4_tear 19 = .ok (.iconst 1, 1) := by decide +kernel
theorem dX4_tear_20 : decode cX4_tear 20 = .ok (.invokevirtual 84, 3) := by decide +kernel
theorem dX4_tear_23 : decode cX4_tear 23 = .ok (.ireturn, 1) := by decide +kernel
theorem dX4_tear_24 : decode cX4_tear 24 = .ok (.aload_n 0, 1) := by decide +kernel
theorem dX4_tear_25 : decode cX4_tear 25 = .ok (.getfield 13, 3) := by decide +kernel
theorem dX4_tear_28 : decode cX4_tear 28 = .ok (.iload_n 1, 1) := by decide +kernel
theorem dX4_tear_29 : decode cX4_tear 29 = .ok (.iconst (-1), 1) := by decide +kernel
theorem dX4_tear_30 : decode cX4_tear 30 = .ok (.iastore, 1) := by decide +kernel
theorem dX4_tear_31 : decode cX4_tear 31 = .ok (.iconst 1, 1) := by decide +kernel
theorem dX4_tear_32 : decode cX4_tear 32 = .ok (.ireturn, 1) := by decide +kernel
theorem dX4_copy_0 : decode cX4_copy 0 = .ok (.iload_n 1, 1) := by decide +kernel
theorem dX4_copy_1 : decode cX4_copy 1 = .ok (.invokestatic 80, 3) := by decide +kernel
theorem dX4_copy_4 : decode cX4_copy 4 = .ok (.ifCond .eq 10, 3) := by decide +kernel
theorem dX4_copy_7 : decode cX4_copy 7 = .ok (.iload_n 3, 1) := by decide +kernel
theorem dX4_copy_8 : decode cX4_copy 8 = .ok (.invokestatic 80, 3) := by decide +kernel
theorem dX4_copy_11 : decode cX4_copy 11 = .ok (.ifCond .ne 5, 3) := by decide +kernel
theorem dX4_copy_14 : decode cX4_copy 14 = .ok (.iconst (-1), 1) := by decide +kernel
theorem dX4_copy_15 : decode cX4_copy 15 = .ok (.ireturn, 1) := by decide +kernel
theorem dX4_copy_16 : decode cX4_copy 16 = .ok (.iload 5, 2) := by decide +kernel
theorem dX4_copy_18 : decode cX4_copy 18 = .ok (.ifCond .ge 9, 3) := by decide +kernel
theorem dX4_copy_21 : decode cX4_copy 21 = .ok (.aload_n 0, 1) := by decide +kernel
theorem dX4_copy_22 : decode cX4_copy 22 = .ok (.iconst 5, 1) := by decide +kernel
theorem dX4_copy_23 : decode cX4_copy 23 = .ok (.invokevirtual 84, 3) := by decide +kernel
theorem dX4_copy_26 : decode cX4_copy 26 = .ok (.ireturn, 1) := by decide +kernel
theorem dX4_copy_27 : decode cX4_copy 27 = .ok (.aload_n 0, 1) := by decide +kernel
theorem dX4_copy_28 : decode cX4_copy 28 = .ok (.getfield 13, 3) := by decide +kernel
theorem dX4_copy_31 : decode cX4_copy 31 = .ok (.iload_n 1, 1) := by decide +kernel
theorem dX4_copy_32 : decode cX4_copy 32 = .ok (.iaload, 1) := by decide +kernel
theorem dX4_copy_33 : decode cX4_copy 33 = .ok (.ifCond .lt 12, 3) := by decide +kernel
theorem dX4_copy_36 : decode cX4_copy 36 = .ok (.aload_n 0, 1) := by decide +kernel
theorem dX4_copy_37 : decode cX4_copy 37 = .ok (.getfield 13, 3) := by decide +kernel
theorem dX4_copy_40 : decode cX4_copy 40 = .ok (.iload_n 3, 1) := by decide +kernel
theorem dX4_copy_41 : decode cX4_copy 41 = .ok (.iaload, 1) := by decide +kernel
theorem dX4_copy_42 : decode cX4_copy 42 = .ok (.ifCond .ge 9, 3) := by decide +kernel
theorem dX4_copy_45 : decode cX4_copy 45 = .ok (.aload_n 0, 1) := by decide +kernel
theorem dX4_copy_46 : decode cX4_copy 46 = .ok (.iconst 1, 1) := by decide +kernel
theorem dX4_copy_47 : decode cX4_copy 47 = .ok (.invokevirtual 84, 3) := by decide +kernel
theorem dX4_copy_50 : decode cX4_copy 50 = .ok (.ireturn, 1) := by decide +kernel
theorem dX4_copy_51 : decode cX4_copy 51 = .ok (.iload_n 2, 1) := by decide +kernel
theorem dX4_copy_52 : decode cX4_copy 52 = .ok (.ifCond .lt 43, 3) := by decide +kernel
theorem dX4_copy_55 : decode cX4_copy 55 = .ok (.iload 4, 2) := by decide +kernel
theorem dX4_copy_57 : decode cX4_copy 57 = .ok (.ifCond .lt 38, 3) := by decide +kernel
theorem dX4_copy_60 : decode cX4_copy 60 = .ok (.iload_n 2, 1) := by decide +kernel
theorem dX4_copy_61 : decode cX4_copy 61 = .ok (.i2l, 1) := by decide +kernel
theorem dX4_copy_62 : decode cX4_copy 62 = .ok (.iload 5, 2) := by decide +kernel
theorem dX4_copy_64 : decode cX4_copy 64 = .ok (.i2l, 1) := by decide +kernel
theorem dX4_copy_65 : decode cX4_copy 65 = .ok (.ladd, 1) := by decide +kernel
theorem dX4_copy_66 : decode cX4_copy 66 = .ok (.aload_n 0, 1) := by decide +kernel
theorem dX4_copy_67 : decode cX4_copy 67 = .ok (.getfield 13, 3) := by decide +kernel
theorem dX4_copy_70 : decode cX4_copy 70 = .ok (.iload_n 1, 1) := by decide +kernel
theorem dX4_copy_71 : decode cX4_copy 71 = .ok (.iaload, 1) := by decide +kernel
theorem dX4_copy_72 : decode cX4_copy 72 = .ok (.i2l, 1) := by decide +kernel
theorem dX4_copy_73 : decode cX4_copy 73 = .ok (.lcmp, 1) := by decide +kernel
theorem dX4_copy_74 : decode cX4_copy 74 = .ok (.ifCond .gt 21, 3) := by decide +kernel
theorem dX4_copy_77 : decode cX4_copy 77 = .ok (.iload 4, 2) := by decide +kernel
theorem dX4_copy_79 : decode cX4_copy 79 = .ok (.i2l, 1) := by decide +kernel
theorem dX4_copy_80 : decode cX4_copy 80 = .ok (.iload 5, 2) := by decide +kernel
theorem dX4_copy_82 : decode cX4_copy 82 = .ok (.i2l, 1) := by decide +kernel
theorem dX4_copy_83 : decode cX4_copy 83 = .ok (.ladd, 1) := by decide +kernel
theorem dX4_copy_84 : decode cX4_copy 84 = .ok (.aload_n 0, 1) := by decide +kernel
theorem dX4_copy_85 : decode cX4_copy 85 = .ok (.getfield 13, 3) := by decide +kernel
theorem dX4_copy_88 : decode cX4_copy 88 = .ok (.iload_n 3, 1) := by decide +kernel
theorem dX4_copy_89 : decode cX4_copy 89 = .ok (.iaload, 1) := by decide +kernel
theorem dX4_copy_90 : decode cX4_copy 90 = .ok (.i2l, 1) := by decide +kernel
theorem dX4_copy_91 : decode cX4_copy 91 = .ok (.lcmp, 1) := by decide +kernel
theorem dX4_copy_92 : decode cX4_copy 92 = .ok (.ifCond .le 9, 3) := by decide +kernel
theorem dX4_copy_95 : decode cX4_copy 95 = .ok (.aload_n 0, 1) := by decide +kernel
theorem dX4_copy_96 : decode cX4_copy 96 = .ok (.iconst 2, 1) := by decide +kernel
theorem dX4_copy_97 : decode cX4_copy 97 = .ok (.invokevirtual 84, 3) := by decide +kernel
theorem dX4_copy_100 : decode cX4_copy 100 = .ok (.ireturn, 1) := by decide +kernel
theorem dX4_copy_101 : decode cX4_copy 101 = .ok (.iconst 0, 1) := by decide +kernel
theorem dX4_copy_102 : decode cX4_copy 102 = .ok (.istore 6, 2) := by decide +kernel
theorem dX4_copy_104 : decode cX4_copy 104 = .ok (.iload 6, 2) := by decide +kernel
theorem dX4_copy_106 : decode cX4_copy 106 = .ok (.iload 5, 2) := by decide +kernel
theorem dX4_copy_108 : decode cX4_copy 108 = .ok (.if_icmp .ge 58, 3) := by decide +kernel
theorem dX4_copy_111 : decode cX4_copy 111 = .ok (.iload 4, 2) := by decide +kernel
theorem dX4_copy_113 : decode cX4_copy 113 = .ok (.iload_n 2, 1) := by decide +kernel
theorem dX4_copy_114 : decode cX4_copy 114 = .ok (.if_icmp .le 13, 3) := by decide +kernel
theorem dX4_copy_117 : decode cX4_copy 117 = .ok (.iload 5, 2) := by decide +kernel
theorem dX4_copy_119 : decode cX4_copy 119 = .ok (.iconst 1, 1) := by decide +kernel
theorem dX4_copy_120 : decode cX4_copy 120 = .ok (.isub, 1) := by decide +kernel
theorem dX4_copy_121 : decode cX4_copy 121 = .ok (.iload 6, 2) := by decide +kernel
theorem dX4_copy_123 : decode cX4_copy 123 = .ok (.isub, 1) := by decide +kernel
theorem dX4_copy_124 : decode cX4_copy 124 = .ok (.goto 5, 3) := by decide +kernel
theorem dX4_copy_127 : decode cX4_copy 127 = .ok (.iload 6, 2) := by decide +kernel
theorem dX4_copy_129 : decode cX4_copy 129 = .ok (.istore 7, 2) := by decide +kernel
theorem dX4_copy_131 : decode cX4_copy 131 = .ok (.aload_n 0, 1) := by decide +kernel
theorem dX4_copy_132 : decode cX4_copy 132 = .ok (.getfield 7, 3) := by decide +kernel
theorem dX4_copy_135 : decode cX4_copy 135 = .ok (.bipush 40, 2) := by decide +kernel
theorem dX4_copy_137 : decode cX4_copy 137 = .ok (.iload_n 3, 1) := by decide +kernel
theorem dX4_copy_138 : decode cX4_copy 138 = .ok (.imul, 1) := by decide +kernel
theorem dX4_copy_139 : decode cX4_copy 139 = .ok (.iload 4, 2) := by decide +kernel
theorem dX4_copy_141 : decode cX4_copy 141 = .ok (.iadd, 1) := by decide +kernel
theorem dX4_copy_142 : decode cX4_copy 142 = .ok (.iload 7, 2) := by decide +kernel
theorem dX4_copy_144 : decode cX4_copy 144 = .ok (.iadd, 1) := by decide +kernel
theorem dX4_copy_145 : decode cX4_copy 145 = .ok (.aload_n 0, 1) := by decide +kernel
theorem dX4_copy_146 : decode cX4_copy 146 = .ok (.getfield 7, 3) := by decide +kernel
theorem dX4_copy_149 : decode cX4_copy 149 = .ok (.bipush 40, 2) := by decide +kernel
theorem dX4_copy_151 : decode cX4_copy 151 = .ok (.iload_n 1, 1) := by decide +kernel
theorem dX4_copy_152 : decode cX4_copy 152 = .ok (.imul, 1) := by decide +kernel
theorem dX4_copy_153 : decode cX4_copy 153 = .ok (.iload_n 2, 1) := by decide +kernel
theorem dX4_copy_154 : decode cX4_copy 154 = .ok (.iadd, 1) := by decide +kernel
theorem dX4_copy_155 : decode cX4_copy 155 = .ok (.iload 7, 2) := by decide +kernel
theorem dX4_copy_157 : decode cX4_copy 157 = .ok (.iadd, 1) := by decide +kernel
theorem dX4_copy_158 : decode cX4_copy 158 = .ok (.iaload, 1) := by decide +kernel
theorem dX4_copy_159 : decode cX4_copy 159 = .ok (.iastore, 1) := by decide +kernel
theorem dX4_copy_160 : decode cX4_copy 160 = .ok (.iinc 6 1, 3) := by decide +kernel
theorem dX4_copy_163 : decode cX4_copy 163 = .ok (.goto (-59), 3) := by decide +kernel
theorem dX4_copy_166 : decode cX4_copy 166 = .ok (.iconst 1, 1) := by decide +kernel
theorem dX4_copy_167 : decode cX4_copy 167 = .ok (.ireturn, 1) := by decide +kernel
theorem dX4_mean_0 : decode cX4_mean 0 = .ok (.iload_n 1, 1) := by decide +kernel
theorem dX4_mean_1 : decode cX4_mean 1 = .ok (.invokestatic 80, 3) := by decide +kernel
theorem dX4_mean_4 : decode cX4_mean 4 = .ok (.ifCond .ne 5, 3) := by decide +kernel
theorem dX4_mean_7 : decode cX4_mean 7 = .ok (.iconst (-1), 1) := by decide +kernel
theorem dX4_mean_8 : decode cX4_mean 8 = .ok (.ireturn, 1) := by decide +kernel
theorem dX4_mean_9 : decode cX4_mean 9 = .ok (.aload_n 0, 1) := by decide +kernel
theorem dX4_mean_10 : decode cX4_mean 10 = .ok (.getfield 13, 3) := by decide +kernel
theorem dX4_mean_13 : decode cX4_mean 13 = .ok (.iload_n 1, 1) := by decide +kernel
theorem dX4_mean_14 : decode cX4_mean 14 = .ok (.iaload, 1) := by decide +kernel
theorem dX4_mean_15 : decode cX4_mean 15 = .ok (.ifCond .ge 9, 3) := by decide +kernel
theorem dX4_mean_18 : decode cX4_mean 18 = .ok (.aload_n 0, 1) := by decide +kernel
theorem dX4_mean_19 : decode cX4_mean 19 = .ok (.iconst 1, 1) := by decide +kernel
theorem dX4_mean_20 : decode cX4_mean 20 = .ok (.invokevirtual 84, 3) := by decide +kernel
theorem dX4_mean_23 : decode cX4_mean 23 = .ok (.ireturn, 1) := by decide +kernel
theorem dX4_mean_24 : decode cX4_mean 24 = .ok (.aload_n 0, 1) := by decide +kernel
theorem dX4_mean_25 : decode cX4_mean 25 = .ok (.getfield 13, 3) := by decide +kernel
theorem dX4_mean_28 : decode cX4_mean 28 = .ok (.iload_n 1, 1) := by decide +kernel
theorem dX4_mean_29 : decode cX4_mean 29 = .ok (.iaload, 1) := by decide +kernel
theorem dX4_mean_30 : decode cX4_mean 30 = .ok (.ifCond .ne 9, 3) := by decide +kernel
theorem dX4_mean_33 : decode cX4_mean 33 = .ok (.aload_n 0, 1) := by decide +kernel
theorem dX4_mean_34 : decode cX4_mean 34 = .ok (.iconst 4, 1) := by decide +kernel
theorem dX4_mean_35 : decode cX4_mean 35 = .ok (.invokevirtual 84, 3) := by decide +kernel
theorem dX4_mean_38 : decode cX4_mean 38 = .ok (.ireturn, 1) := by decide +kernel
theorem dX4_mean_39 : decode cX4_mean 39 = .ok (.lconst 0, 1) := by decide +kernel
theorem dX4_mean_40 : decode cX4_mean 40 = .ok (.lstore_n 2, 1) := by decide +kernel
theorem dX4_mean_41 : decode cX4_mean 41 = .ok (.iconst 0, 1) := by decide +kernel
theorem dX4_mean_42 : decode cX4_mean 42 = .ok (.istore 4, 2) := by decide +kernel
theorem dX4_mean_44 : decode cX4_mean 44 = .ok (.iload 4, 2) := by decide +kernel
theorem dX4_mean_46 : decode cX4_mean 46 = .ok (.aload_n 0, 1) := by decide +kernel
theorem dX4_mean_47 : decode cX4_mean 47 = .ok (.getfield 13, 3) := by decide +kernel
theorem dX4_mean_50 : decode cX4_mean 50 = .ok (.iload_n 1, 1) := by decide +kernel
theorem dX4_mean_51 : decode cX4_mean 51 = .ok (.iaload, 1) := by decide +kernel
theorem dX4_mean_52 : decode cX4_mean 52 = .ok (.if_icmp .ge 25, 3) := by decide +kernel
theorem dX4_mean_55 : decode cX4_mean 55 = .ok (.lload_n 2, 1) := by decide +kernel
theorem dX4_mean_56 : decode cX4_mean 56 = .ok (.aload_n 0, 1) := by decide +kernel
theorem dX4_mean_57 : decode cX4_mean 57 = .ok (.getfield 7, 3) := by decide +kernel
theorem dX4_mean_60 : decode cX4_mean 60 = .ok (.bipush 40, 2) := by decide +kernel
theorem dX4_mean_62 : decode cX4_mean 62 = .ok (.iload_n 1, 1) := by decide +kernel
theorem dX4_mean_63 : decode cX4_mean 63 = .ok (.imul, 1) := by decide +kernel
theorem dX4_mean_64 : decode cX4_mean 64 = .ok (.iload 4, 2) := by decide +kernel
theorem dX4_mean_66 : decode cX4_mean 66 = .ok (.iadd, 1) := by decide +kernel
theorem dX4_mean_67 : decode cX4_mean 67 = .ok (.iaload, 1) := by decide +kernel
theorem dX4_mean_68 : decode cX4_mean 68 = .ok (.i2l, 1) := by decide +kernel
theorem dX4_mean_69 : decode cX4_mean 69 = .ok (.ladd, 1) := by decide +kernel
theorem dX4_mean_70 : decode cX4_mean 70 = .ok (.lstore_n 2, 1) := by decide +kernel
theorem dX4_mean_71 : decode cX4_mean 71 = .ok (.iinc 4 1, 3) := by decide +kernel
theorem dX4_mean_74 : decode cX4_mean 74 = .ok (.goto (-30), 3) := by decide +kernel
theorem dX4_mean_77 : decode cX4_mean 77 = .ok (.aload_n 0, 1) := by decide +kernel
theorem dX4_mean_78 : decode cX4_mean 78 = .ok (.lload_n 2, 1) := by decide +kernel
theorem dX4_mean_79 : decode cX4_mean 79 = .ok (.aload_n 0, 1) := by decide +kernel
theorem dX4_mean_80 : decode cX4_mean 80 = .ok (.getfield 13, 3) := by decide +kernel
theorem dX4_mean_83 : decode cX4_mean 83 = .ok (.iload_n 1, 1) := by decide +kernel
theorem dX4_mean_84 : decode cX4_mean 84 = .ok (.iaload, 1) := by decide +kernel
theorem dX4_mean_85 : decode cX4_mean 85 = .ok (.i2l, 1) := by decide +kernel
theorem dX4_mean_86 : decode cX4_mean 86 = .ok (.ldiv, 1) := by decide +kernel
theorem dX4_mean_87 : decode cX4_mean 87 = .ok (.l2i, 1) := by decide +kernel
theorem dX4_mean_88 : decode cX4_mean 88 = .ok (.invokevirtual 88, 3) := by decide +kernel
theorem dX4_mean_91 : decode cX4_mean 91 = .ok (.ireturn, 1) := by decide +kernel
theorem dX4_text_0 : decode cX4_text 0 = .ok (.iload_n 1, 1) := by decide +kernel
theorem dX4_text_1 : decode cX4_text 1 = .ok (.invokestatic 91, 3) := by decide +kernel
theorem dX4_text_4 : decode cX4_text 4 = .ok (.ifCond .eq 9, 3) := by decide +kernel
theorem dX4_text_7 : decode cX4_text 7 = .ok (.iload_n 2, 1) := by decide +kernel
theorem dX4_text_8 : decode cX4_text 8 = .ok (.bipush 60, 2) := by decide +kernel
theorem dX4_text_10 : decode cX4_text 10 = .ok (.if_icmp .le 5, 3) := by decide +kernel
theorem dX4_text_13 : decode cX4_text 13 = .ok (.iconst (-1), 1) := by decide +kernel
theorem dX4_text_14 : decode cX4_text 14 = .ok (.ireturn, 1) := by decide +kernel
theorem dX4_text_15 : decode cX4_text 15 = .ok (.iload_n 2, 1) := by decide +kernel
theorem dX4_text_16 : decode cX4_text 16 = .ok (.ifCond .ge 9, 3) := by decide +kernel
theorem dX4_text_19 : decode cX4_text 19 = .ok (.aload_n 0, 1) := by decide +kernel
theorem dX4_text_20 : decode cX4_text 20 = .ok (.iconst 5, 1) := by decide +kernel
theorem dX4_text_21 : decode cX4_text 21 = .ok (.invokevirtual 84, 3) := by decide +kernel
theorem dX4_text_24 : decode cX4_text 24 = .ok (.ireturn, 1) := by decide +kernel
theorem dX4_text_25 : decode cX4_text 25 = .ok (.aload_n 0, 1) := by decide +kernel
theorem dX4_text_26 : decode cX4_text 26 = .ok (.getfield 19, 3) := by decide +kernel
theorem dX4_text_29 : decode cX4_text 29 = .ok (.iload_n 1, 1) := by decide +kernel
theorem dX4_text_30 : decode cX4_text 30 = .ok (.iload_n 2, 1) := by decide +kernel
theorem dX4_text_31 : decode cX4_text 31 = .ok (.iastore, 1) := by decide +kernel
theorem dX4_text_32 : decode cX4_text 32 = .ok (.iconst 0, 1) := by decide +kernel
theorem dX4_text_33 : decode cX4_text 33 = .ok (.istore_n 3, 1) := by decide +kernel
theorem dX4_text_34 : decode cX4_text 34 = .ok (.iload_n 3, 1) := by decide +kernel
theorem dX4_text_35 : decode cX4_text 35 = .ok (.bipush 60, 2) := by decide +kernel
theorem dX4_text_37 : decode cX4_text 37 = .ok (.if_icmp .ge 22, 3) := by decide +kernel
theorem dX4_text_40 : decode cX4_text 40 = .ok (.aload_n 0, 1) := by decide +kernel
theorem dX4_text_41 : decode cX4_text 41 = .ok (.getfield 16, 3) := by decide +kernel
theorem dX4_text_44 : decode cX4_text 44 = .ok (.bipush 60, 2) := by decide +kernel
theorem dX4_text_46 : decode cX4_text 46 = .ok (.iload_n 1, 1) := by decide +kernel
theorem dX4_text_47 : decode cX4_text 47 = .ok (.imul, 1) := by decide +kernel
theorem dX4_text_48 : decode cX4_text 48 = .ok (.iload_n 3, 1) := by decide +kernel
theorem dX4_text_49 : decode cX4_text 49 = .ok (.iadd, 1) := by decide +kernel
theorem dX4_text_50 : decode cX4_text 50 = .ok (.bipush 32, 2) := by decide +kernel
theorem dX4_text_52 : decode cX4_text 52 = .ok (.iastore, 1) := by decide +kernel
theorem dX4_text_53 : decode cX4_text 53 = .ok (.iinc 3 1, 3) := by decide +kernel
theorem dX4_text_56 : decode cX4_text 56 = .ok (.goto (-22), 3) := by decide +kernel
theorem dX4_text_59 : decode cX4_text 59 = .ok (.iload_n 2, 1) := by decide +kernel
theorem dX4_text_60 : decode cX4_text 60 = .ok (.ireturn, 1) := by decide +kernel
theorem dX4_put_0 : decode cX4_put 0 = .ok (.iload_n 1, 1) := by decide +kernel
theorem dX4_put_1 : decode cX4_put 1 = .ok (.invokestatic 91, 3) := by decide +kernel
theorem dX4_put_4 : decode cX4_put 4 = .ok (.ifCond .ne 5, 3) := by decide +kernel
theorem dX4_put_7 : decode cX4_put 7 = .ok (.iconst (-1), 1) := by decide +kernel
theorem dX4_put_8 : decode cX4_put 8 = .ok (.ireturn, 1) := by decide +kernel
theorem dX4_put_9 : decode cX4_put 9 = .ok (.aload_n 0, 1) := by decide +kernel
theorem dX4_put_10 : decode cX4_put 10 = .ok (.getfield 19, 3) := by decide +kernel
theorem dX4_put_13 : decode cX4_put 13 = .ok (.iload_n 1, 1) := by decide +kernel
theorem dX4_put_14 : decode cX4_put 14 = .ok (.iaload, 1) := by decide +kernel
theorem dX4_put_15 : decode cX4_put 15 = .ok (.ifCond .ge 9, 3) := by decide +kernel
theorem dX4_put_18 : decode cX4_put 18 = .ok (.aload_n 0, 1) := by decide +kernel
theorem dX4_put_19 : decode cX4_put 19 = .ok (.iconst 1, 1) := by decide +kernel
theorem dX4_put_20 : decode cX4_put 20 = .ok (.invokevirtual 84, 3) := by decide +kernel
theorem dX4_put_23 : decode cX4_put 23 = .ok (.ireturn, 1) := by decide +kernel
theorem dX4_put_24 : decode cX4_put 24 = .ok (.iload_n 2, 1) := by decide +kernel
theorem dX4_put_25 : decode cX4_put 25 = .ok (.i2l, 1) := by decide +kernel
theorem dX4_put_26 : decode cX4_put 26 = .ok (.lconst 0, 1) := by decide +kernel
theorem dX4_put_27 : decode cX4_put 27 = .ok (.aload_n 0, 1) := by decide +kernel
theorem dX4_put_28 : decode cX4_put 28 = .ok (.getfield 19, 3) := by decide +kernel
theorem dX4_put_31 : decode cX4_put 31 = .ok (.iload_n 1, 1) := by decide +kernel
theorem dX4_put_32 : decode cX4_put 32 = .ok (.iaload, 1) := by decide +kernel
theorem dX4_put_33 : decode cX4_put 33 = .ok (.iconst 1, 1) := by decide +kernel
theorem dX4_put_34 : decode cX4_put 34 = .ok (.isub, 1) := by decide +kernel
theorem dX4_put_35 : decode cX4_put 35 = .ok (.i2l, 1) := by decide +kernel
theorem dX4_put_36 : decode cX4_put 36 = .ok (.invokestatic 74, 3) := by decide +kernel
theorem dX4_put_39 : decode cX4_put 39 = .ok (.ifCond .ne 9, 3) := by decide +kernel
theorem dX4_put_42 : decode cX4_put 42 = .ok (.aload_n 0, 1) := by decide +kernel
theorem dX4_put_43 : decode cX4_put 43 = .ok (.iconst 2, 1) := by decide +kernel
theorem dX4_put_44 : decode cX4_put 44 = .ok (.invokevirtual 84, 3) := by decide +kernel
theorem dX4_put_47 : decode cX4_put 47 = .ok (.ireturn, 1) := by decide +kernel
theorem dX4_put_48 : decode cX4_put 48 = .ok (.aload_n 0, 1) := by decide +kernel
theorem dX4_put_49 : decode cX4_put 49 = .ok (.getfield 16, 3) := by decide +kernel
theorem dX4_put_52 : decode cX4_put 52 = .ok (.bipush 60, 2) := by decide +kernel
theorem dX4_put_54 : decode cX4_put 54 = .ok (.iload_n 1, 1) := by decide +kernel
theorem dX4_put_55 : decode cX4_put 55 = .ok (.imul, 1) := by decide +kernel
theorem dX4_put_56 : decode cX4_put 56 = .ok (.iload_n 2, 1) := by decide +kernel
theorem dX4_put_57 : decode cX4_put 57 = .ok (.iadd, 1) := by decide +kernel
theorem dX4_put_58 : decode cX4_put 58 = .ok (.iaload, 1) := by decide +kernel
theorem dX4_put_59 : decode cX4_put 59 = .ok (.istore 4, 2) := by decide +kernel
theorem dX4_put_61 : decode cX4_put 61 = .ok (.aload_n 0, 1) := by decide +kernel
theorem dX4_put_62 : decode cX4_put 62 = .ok (.getfield 16, 3) := by decide +kernel
theorem dX4_put_65 : decode cX4_put 65 = .ok (.bipush 60, 2) := by decide +kernel
theorem dX4_put_67 : decode cX4_put 67 = .ok (.iload_n 1, 1) := by decide +kernel
theorem dX4_put_68 : decode cX4_put 68 = .ok (.imul, 1) := by decide +kernel
theorem dX4_put_69 : decode cX4_put 69 = .ok (.iload_n 2, 1) := by decide +kernel
theorem dX4_put_70 : decode cX4_put 70 = .ok (.iadd, 1) := by decide +kernel
theorem dX4_put_71 : decode cX4_put 71 = .ok (.iload_n 3, 1) := by decide +kernel
theorem dX4_put_72 : decode cX4_put 72 = .ok (.i2b, 1) := by decide +kernel
theorem dX4_put_73 : decode cX4_put 73 = .ok (.iastore, 1) := by decide +kernel
theorem dX4_put_74 : decode cX4_put 74 = .ok (.iload 4, 2) := by decide +kernel
theorem dX4_put_76 : decode cX4_put 76 = .ok (.sipush 1000, 3) := by decide +kernel
theorem dX4_put_79 : decode cX4_put 79 = .ok (.iadd, 1) := by decide +kernel
theorem dX4_put_80 : decode cX4_put 80 = .ok (.ireturn, 1) := by decide +kernel
theorem dX4_copies_0 : decode cX4_copies 0 = .ok (.iconst 0, 1) := by decide +kernel
theorem dX4_copies_1 : decode cX4_copies 1 = .ok (.istore 5, 2) := by decide +kernel
theorem dX4_copies_3 : decode cX4_copies 3 = .ok (.iload 5, 2) := by decide +kernel
theorem dX4_copies_5 : decode cX4_copies 5 = .ok (.iload 4, 2) := by decide +kernel
theorem dX4_copies_7 : decode cX4_copies 7 = .ok (.if_icmp .ge 21, 3) := by decide +kernel
theorem dX4_copies_10 : decode cX4_copies 10 = .ok (.aload_n 2, 1) := by decide +kernel
theorem dX4_copies_11 : decode cX4_copies 11 = .ok (.iload_n 3, 1) := by decide +kernel
theorem dX4_copies_12 : decode cX4_copies 12 = .ok (.iload 5, 2) := by decide +kernel
theorem dX4_copies_14 : decode cX4_copies 14 = .ok (.iadd, 1) := by decide +kernel
theorem dX4_copies_15 : decode cX4_copies 15 = .ok (.aload_n 0, 1) := by decide +kernel
theorem dX4_copies_16 : decode cX4_copies 16 = .ok (.iload_n 1, 1) := by decide +kernel
theorem dX4_copies_17 : decode cX4_copies 17 = .ok (.iload 5, 2) := by decide +kernel
theorem dX4_copies_19 : decode cX4_copies 19 = .ok (.iadd, 1) := by decide +kernel
theorem dX4_copies_20 : decode cX4_copies 20 = .ok (.iaload, 1) := by decide +kernel
theorem dX4_copies_21 : decode cX4_copies 21 = .ok (.iastore, 1) := by decide +kernel
theorem dX4_copies_22 : decode cX4_copies 22 = .ok (.iinc 5 1, 3) := by decide +kernel
theorem dX4_copies_25 : decode cX4_copies 25 = .ok (.goto (-22), 3) := by decide +kernel
theorem dX4_copies_28 : decode cX4_copies 28 = .ok (.return_, 1) := by decide +kernel
theorem dX4_forgets_0 : decode cX4_forgets 0 = .ok (.aload_n 0, 1) := by decide +kernel
theorem dX4_forgets_1 : decode cX4_forgets 1 = .ok (.getfield 38, 3) := by decide +kernel
theorem dX4_forgets_4 : decode cX4_forgets 4 = .ok (.iconst 0, 1) := by decide +kernel
theorem dX4_forgets_5 : decode cX4_forgets 5 = .ok (.iconst 0, 1) := by decide +kernel
theorem dX4_forgets_6 : decode cX4_forgets 6 = .ok (.iastore, 1) := by decide +kernel
theorem dX4_forgets_7 : decode cX4_forgets 7 = .ok (.iconst 0, 1) := by decide +kernel
theorem dX4_forgets_8 : decode cX4_forgets 8 = .ok (.istore_n 1, 1) := by decide +kernel
theorem dX4_forgets_9 : decode cX4_forgets 9 = .ok (.iload_n 1, 1) := by decide +kernel
theorem dX4_forgets_10 : decode cX4_forgets 10 = .ok (.bipush 6, 2) := by decide +kernel
theorem dX4_forgets_12 : decode cX4_forgets 12 = .ok (.if_icmp .ge 19, 3) := by decide +kernel
theorem dX4_forgets_15 : decode cX4_forgets 15 = .ok (.aload_n 0, 1) := by decide +kernel
theorem dX4_forgets_16 : decode cX4_forgets 16 = .ok (.getfield 38, 3) := by decide +kernel
theorem dX4_forgets_19 : decode cX4_forgets 19 = .ok (.bipush 7, 2) := by decide +kernel
theorem dX4_forgets_21 : decode cX4_forgets 21 = .ok (.iload_n 1, 1) := by decide +kernel
theorem dX4_forgets_22 : decode cX4_forgets 22 = .ok (.iadd, 1) := by decide +kernel
theorem dX4_forgets_23 : decode cX4_forgets 23 = .ok (.iconst 0, 1) := by decide +kernel
theorem dX4_forgets_24 : decode cX4_forgets 24 = .ok (.iastore, 1) := by decide +kernel
theorem dX4_forgets_25 : decode cX4_forgets 25 = .ok (.iinc 1 1, 3) := by decide +kernel
theorem dX4_forgets_28 : decode cX4_forgets 28 = .ok (.goto (-19), 3) := by decide +kernel
theorem dX4_forgets_31 : decode cX4_forgets 31 = .ok (.aload_n 0, 1) := by decide +kernel
theorem dX4_forgets_32 : decode cX4_forgets 32 = .ok (.iconst 0, 1) := by decide +kernel
theorem dX4_forgets_33 : decode cX4_forgets 33 = .ok (.putfield 94, 3) := by decide +kernel
theorem dX4_forgets_36 : decode cX4_forgets 36 = .ok (.iconst 0, 1) := by decide +kernel
theorem dX4_forgets_37 : decode cX4_forgets 37 = .ok (.istore_n 1, 1) := by decide +kernel
theorem dX4_forgets_38 : decode cX4_forgets 38 = .ok (.iload_n 1, 1) := by decide +kernel
theorem dX4_forgets_39 : decode cX4_forgets 39 = .ok (.iconst 3, 1) := by decide +kernel
theorem dX4_forgets_40 : decode cX4_forgets 40 = .ok (.if_icmp .ge 20, 3) := by decide +kernel
theorem dX4_forgets_43 : decode cX4_forgets 43 = .ok (.aload_n 0, 1) := by decide +kernel
theorem dX4_forgets_44 : decode cX4_forgets 44 = .ok (.getfield 50, 3) := by decide +kernel
theorem dX4_forgets_47 : decode cX4_forgets 47 = .ok (.sipush 534, 3) := by decide +kernel
theorem dX4_forgets_50 : decode cX4_forgets 50 = .ok (.iload_n 1, 1) := by decide +kernel
theorem dX4_forgets_51 : decode cX4_forgets 51 = .ok (.imul, 1) := by decide +kernel
theorem dX4_forgets_52 : decode cX4_forgets 52 = .ok (.iconst (-1), 1) := by decide +kernel
theorem dX4_forgets_53 : decode cX4_forgets 53 = .ok (.iastore, 1) := by decide +kernel
theorem dX4_forgets_54 : decode cX4_forgets 54 = .ok (.iinc 1 1, 3) := by decide +kernel
theorem dX4_forgets_57 : decode cX4_forgets 57 = .ok (.goto (-19), 3) := by decide +kernel
theorem dX4_forgets_60 : decode cX4_forgets 60 = .ok (.return_, 1) := by decide +kernel
theorem dX4_here_0 : decode cX4_here 0 = .ok (.aload_n 0, 1) := by decide +kernel
theorem dX4_here_1 : decode cX4_here 1 = .ok (.getfield 97, 3) := by decide +kernel
theorem dX4_here_4 : decode cX4_here 4 = .ok (.aload_n 0, 1) := by decide +kernel
theorem dX4_here_5 : decode cX4_here 5 = .ok (.getfield 100, 3) := by decide +kernel
theorem dX4_here_8 : decode cX4_here 8 = .ok (.if_icmp .ge 23, 3) := by decide +kernel
theorem dX4_here_11 : decode cX4_here 11 = .ok (.aload_n 0, 1) := by decide +kernel
theorem dX4_here_12 : decode cX4_here 12 = .ok (.getfield 16, 3) := by decide +kernel
theorem dX4_here_15 : decode cX4_here 15 = .ok (.bipush 60, 2) := by decide +kernel
theorem dX4_here_17 : decode cX4_here 17 = .ok (.aload_n 0, 1) := by decide +kernel
theorem dX4_here_18 : decode cX4_here 18 = .ok (.getfield 103, 3) := by decide +kernel
theorem dX4_here_21 : decode cX4_here 21 = .ok (.imul, 1) := by decide +kernel
theorem dX4_here_22 : decode cX4_here 22 = .ok (.aload_n 0, 1) := by decide +kernel
theorem dX4_here_23 : decode cX4_here 23 = .ok (.getfield 97, 3) := by decide +kernel
theorem dX4_here_26 : decode cX4_here 26 = .ok (.iadd, 1) := by decide +kernel
theorem dX4_here_27 : decode cX4_here 27 = .ok (.iaload, 1) := by decide +kernel
theorem dX4_here_28 : decode cX4_here 28 = .ok (.goto 4, 3) := by decide +kernel
theorem dX4_here_31 : decode cX4_here 31 = .ok (.iconst (-1), 1) := by decide +kernel
theorem dX4_here_32 : decode cX4_here 32 = .ok (.ireturn, 1) := by decide +kernel
theorem dX4_kindOf_0 : decode cX4_kindOf 0 = .ok (.iload_n 0, 1) := by decide +kernel
theorem dX4_kindOf_1 : decode cX4_kindOf 1 = .ok (.tableswitch 75 106 117 #[71, 63, 75, 67, 75, 75, 69, 75, 75, 65, 75, 73], 63) := by decide +kernel
theorem dX4_kindOf_64 : decode cX4_kindOf 64 = .ok (.iconst 0, 1) := by decide +kernel
theorem dX4_kindOf_65 : decode cX4_kindOf 65 = .ok (.ireturn, 1) := by decide +kernel
theorem dX4_kindOf_66 : decode cX4_kindOf 66 = .ok (.iconst 1, 1) := by decide +kernel
theorem dX4_kindOf_67 : decode cX4_kindOf 67 = .ok (.ireturn, 1) := by decide +kernel
theorem dX4_kindOf_68 : decode cX4_kindOf 68 = .ok (.iconst 2, 1) := by decide +kernel
theorem dX4_kindOf_69 : decode cX4_kindOf 69 = .ok (.ireturn, 1) := by decide +kernel
theorem dX4_kindOf_70 : decode cX4_kindOf 70 = .ok (.iconst 3, 1) := by decide +kernel
theorem dX4_kindOf_71 : decode cX4_kindOf 71 = .ok (.ireturn, 1) := by decide +kernel
theorem dX4_kindOf_72 : decode cX4_kindOf 72 = .ok (.iconst 4, 1) := by decide +kernel
theorem dX4_kindOf_73 : decode cX4_kindOf 73 = .ok (.ireturn, 1) := by decide +kernel
theorem dX4_kindOf_74 : decode cX4_kindOf 74 = .ok (.iconst 5, 1) := by decide +kernel
theorem dX4_kindOf_75 : decode cX4_kindOf 75 = .ok (.ireturn, 1) := by decide +kernel
theorem dX4_kindOf_76 : decode cX4_kindOf 76 = .ok (.bipush (-9), 2) := by decide +kernel
theorem dX4_kindOf_78 : decode cX4_kindOf 78 = .ok (.ireturn, 1) := by decide +kernel
theorem dX4_isFigure_0 : decode cX4_isFigure 0 = .ok (.aload_n 0, 1) := by decide +kernel
theorem dX4_isFigure_1 : decode cX4_isFigure 1 = .ok (.invokevirtual 106, 3) := by decide +kernel
theorem dX4_isFigure_4 : decode cX4_isFigure 4 = .ok (.i2l, 1) := by decide +kernel
theorem dX4_isFigure_5 : decode cX4_isFigure 5 = .ok (.ldc2_w 110, 3) := by decide +kernel
theorem dX4_isFigure_8 : decode cX4_isFigure 8 = .ok (.ldc2_w 112, 3) := by decide +kernel
theorem dX4_isFigure_11 : decode cX4_isFigure 11 = .ok (.invokestatic 74, 3) := by decide +kernel
theorem dX4_isFigure_14 : decode cX4_isFigure 14 = .ok (.ifCond .ne 5, 3) := by decide +kernel
theorem dX4_isFigure_17 : decode cX4_isFigure 17 = .ok (.iconst 0, 1) := by decide +kernel
theorem dX4_isFigure_18 : decode cX4_isFigure 18 = .ok (.ireturn, 1) := by decide +kernel
theorem dX4_isFigure_19 : decode cX4_isFigure 19 = .ok (.aload_n 0, 1) := by decide +kernel
theorem dX4_isFigure_20 : decode cX4_isFigure 20 = .ok (.aload_n 0, 1) := by decide +kernel
theorem dX4_isFigure_21 : decode cX4_isFigure 21 = .ok (.invokevirtual 106, 3) := by decide +kernel
theorem dX4_isFigure_24 : decode cX4_isFigure 24 = .ok (.bipush 48, 2) := by decide +kernel
theorem dX4_isFigure_26 : decode cX4_isFigure 26 = .ok (.isub, 1) := by decide +kernel
theorem dX4_isFigure_27 : decode cX4_isFigure 27 = .ok (.putfield 114, 3) := by decide +kernel
theorem dX4_isFigure_30 : decode cX4_isFigure 30 = .ok (.aload_n 0, 1) := by decide +kernel
theorem dX4_isFigure_31 : decode cX4_isFigure 31 = .ok (.dup, 1) := by decide +kernel
theorem dX4_isFigure_32 : decode cX4_isFigure 32 = .ok (.getfield 97, 3) := by decide +kernel
theorem dX4_isFigure_35 : decode cX4_isFigure 35 = .ok (.iconst 1, 1) := by decide +kernel
theorem dX4_isFigure_36 : decode cX4_isFigure 36 = .ok (.iadd, 1) := by decide +kernel
theorem dX4_isFigure_37 : decode cX4_isFigure 37 = .ok (.putfield 97, 3) := by decide +kernel
theorem dX4_isFigure_40 : decode cX4_isFigure 40 = .ok (.iconst 1, 1) := by decide +kernel
theorem dX4_isFigure_41 : decode cX4_isFigure 41 = .ok (.ireturn, 1) := by decide +kernel
theorem dX4_skips_0 : decode cX4_skips 0 = .ok (.aload_n 0, 1) := by decide +kernel
theorem dX4_skips_1 : decode cX4_skips 1 = .ok (.invokevirtual 106, 3) := by decide +kernel
theorem dX4_skips_4 : decode cX4_skips 4 = .ok (.bipush 32, 2) := by decide +kernel
theorem dX4_skips_6 : decode cX4_skips 6 = .ok (.if_icmp .ne 16, 3) := by decide +kernel
theorem dX4_skips_9 : decode cX4_skips 9 = .ok (.aload_n 0, 1) := by decide +kernel
theorem dX4_skips_10 : decode cX4_skips 10 = .ok (.dup, 1) := by decide +kernel
theorem dX4_skips_11 : decode cX4_skips 11 = .ok (.getfield 97, 3) := by decide +kernel
theorem dX4_skips_14 : decode cX4_skips 14 = .ok (.iconst 1, 1) := by decide +kernel
theorem dX4_skips_15 : decode cX4_skips 15 = .ok (.iadd, 1) := by decide +kernel
theorem dX4_skips_16 : decode cX4_skips 16 = .ok (.putfield 97, 3) := by decide +kernel
theorem dX4_skips_19 : decode cX4_skips 19 = .ok (.goto (-19), 3) := by decide +kernel
theorem dX4_skips_22 : decode cX4_skips 22 = .ok (.return_, 1) := by decide +kernel
theorem dX4_readsOne_0 : decode cX4_readsOne 0 = .ok (.aload_n 0, 1) := by decide +kernel
theorem dX4_readsOne_1 : decode cX4_readsOne 1 = .ok (.invokevirtual 106, 3) := by decide +kernel
theorem dX4_readsOne_4 : decode cX4_readsOne 4 = .ok (.invokestatic 117, 3) := by decide +kernel
theorem dX4_readsOne_7 : decode cX4_readsOne 7 = .ok (.istore_n 1, 1) := by decide +kernel
theorem dX4_readsOne_8 : decode cX4_readsOne 8 = .ok (.iload_n 1, 1) := by decide +kernel
theorem dX4_readsOne_9 : decode cX4_readsOne 9 = .ok (.bipush (-9), 2) := by decide +kernel
theorem dX4_readsOne_11 : decode cX4_readsOne 11 = .ok (.if_icmp .eq 12, 3) := by decide +kernel
theorem dX4_readsOne_14 : decode cX4_readsOne 14 = .ok (.aload_n 0, 1) := by decide +kernel
theorem dX4_readsOne_15 : decode cX4_readsOne 15 = .ok (.getfield 120, 3) := by decide +kernel
theorem dX4_readsOne_18 : decode cX4_readsOne 18 = .ok (.bipush 6, 2) := by decide +kernel
theorem dX4_readsOne_20 : decode cX4_readsOne 20 = .ok (.if_icmp .ne 5, 3) := by decide +kernel
theorem dX4_readsOne_23 : decode cX4_readsOne 23 = .ok (.iconst 0, 1) := by decide +kernel
theorem dX4_readsOne_24 : decode cX4_readsOne 24 = .ok (.ireturn, 1) := by decide +kernel
theorem dX4_readsOne_25 : decode cX4_readsOne 25 = .ok (.aload_n 0, 1) := by decide +kernel
theorem dX4_readsOne_26 : decode cX4_readsOne 26 = .ok (.dup, 1) := by decide +kernel
theorem dX4_readsOne_27 : decode cX4_readsOne 27 = .ok (.getfield 97, 3) := by decide +kernel
theorem dX4_readsOne_30 : decode cX4_readsOne 30 = .ok (.iconst 1, 1) := by decide +kernel
theorem dX4_readsOne_31 : decode cX4_readsOne 31 = .ok (.iadd, 1) := by decide +kernel
theorem dX4_readsOne_32 : decode cX4_readsOne 32 = .ok (.putfield 97, 3) := by decide +kernel
theorem dX4_readsOne_35 : decode cX4_readsOne 35 = .ok (.aload_n 0, 1) := by decide +kernel
theorem dX4_readsOne_36 : decode cX4_readsOne 36 = .ok (.getfield 53, 3) := by decide +kernel
theorem dX4_readsOne_39 : decode cX4_readsOne 39 = .ok (.iconst 5, 1) := by decide +kernel
theorem dX4_readsOne_40 : decode cX4_readsOne 40 = .ok (.aload_n 0, 1) := by decide +kernel
theorem dX4_readsOne_41 : decode cX4_readsOne 41 = .ok (.getfield 120, 3) := by decide +kernel
theorem dX4_readsOne_44 : decode cX4_readsOne 44 = .ok (.imul, 1) := by decide +kernel
theorem dX4_readsOne_45 : decode cX4_readsOne 45 = .ok (.iload_n 1, 1) := by decide +kernel
theorem dX4_readsOne_46 : decode cX4_readsOne 46 = .ok (.iastore, 1) := by decide +kernel
theorem dX4_readsOne_47 : decode cX4_readsOne 47 = .ok (.iconst 1, 1) := by decide +kernel
theorem dX4_readsOne_48 : decode cX4_readsOne 48 = .ok (.istore_n 2, 1) := by decide +kernel
theorem dX4_readsOne_49 : decode cX4_readsOne 49 = .ok (.iload_n 2, 1) := by decide +kernel
theorem dX4_readsOne_50 : decode cX4_readsOne 50 = .ok (.iconst 5, 1) := by decide +kernel
theorem dX4_readsOne_51 : decode cX4_readsOne 51 = .ok (.if_icmp .ge 35, 3) := by decide +kernel
theorem dX4_readsOne_54 : decode cX4_readsOne 54 = .ok (.aload_n 0, 1) := by decide +kernel
theorem dX4_readsOne_55 : decode cX4_readsOne 55 = .ok (.invokevirtual 123, 3) := by decide +kernel
theorem dX4_readsOne_58 : decode cX4_readsOne 58 = .ok (.ifCond .ne 5, 3) := by decide +kernel
theorem dX4_readsOne_61 : decode cX4_readsOne 61 = .ok (.iconst 0, 1) := by decide +kernel
theorem dX4_readsOne_62 : decode cX4_readsOne 62 = .ok (.ireturn, 1) := by decide +kernel
theorem dX4_readsOne_63 : decode cX4_readsOne 63 = .ok (.aload_n 0, 1) := by decide +kernel
theorem dX4_readsOne_64 : decode cX4_readsOne 64 = .ok (.getfield 53, 3) := by decide +kernel
theorem dX4_readsOne_67 : decode cX4_readsOne 67 = .ok (.iconst 5, 1) := by decide +kernel
theorem dX4_readsOne_68 : decode cX4_readsOne 68 = .ok (.aload_n 0, 1) := by decide +kernel
theorem dX4_readsOne_69 : decode cX4_readsOne 69 = .ok (.getfield 120, 3) := by decide +kernel
theorem dX4_readsOne_72 : decode cX4_readsOne 72 = .ok (.imul, 1) := by decide +kernel
theorem dX4_readsOne_73 : decode cX4_readsOne 73 = .ok (.iload_n 2, 1) := by decide +kernel
theorem dX4_readsOne_74 : decode cX4_readsOne 74 = .ok (.iadd, 1) := by decide +kernel
theorem dX4_readsOne_75 : decode cX4_readsOne 75 = .ok (.aload_n 0, 1) := by decide +kernel
theorem dX4_readsOne_76 : decode cX4_readsOne 76 = .ok (.getfield 114, 3) := by decide +kernel
theorem dX4_readsOne_79 : decode cX4_readsOne 79 = .ok (.iastore, 1) := by decide +kernel
theorem dX4_readsOne_80 : decode cX4_readsOne 80 = .ok (.iinc 2 1, 3) := by decide +kernel
theorem dX4_readsOne_83 : decode cX4_readsOne 83 = .ok (.goto (-34), 3) := by decide +kernel
theorem dX4_readsOne_86 : decode cX4_readsOne 86 = .ok (.aload_n 0, 1) := by decide +kernel
theorem dX4_readsOne_87 : decode cX4_readsOne 87 = .ok (.dup, 1) := by decide +kernel
theorem dX4_readsOne_88 : decode cX4_readsOne 88 = .ok (.getfield 120, 3) := by decide +kernel
theorem dX4_readsOne_91 : decode cX4_readsOne 91 = .ok (.iconst 1, 1) := by decide +kernel
theorem dX4_readsOne_92 : decode cX4_readsOne 92 = .ok (.iadd, 1) := by decide +kernel
theorem dX4_readsOne_93 : decode cX4_readsOne 93 = .ok (.putfield 120, 3) := by decide +kernel
theorem dX4_readsOne_96 : decode cX4_readsOne 96 = .ok (.iconst 1, 1) := by decide +kernel
theorem dX4_readsOne_97 : decode cX4_readsOne 97 = .ok (.ireturn, 1) := by decide +kernel
theorem dX4_reads_0 : decode cX4_reads 0 = .ok (.aload_n 0, 1) := by decide +kernel
theorem dX4_reads_1 : decode cX4_reads 1 = .ok (.iload_n 1, 1) := by decide +kernel
theorem dX4_reads_2 : decode cX4_reads 2 = .ok (.putfield 103, 3) := by decide +kernel
theorem dX4_reads_5 : decode cX4_reads 5 = .ok (.aload_n 0, 1) := by decide +kernel
theorem dX4_reads_6 : decode cX4_reads 6 = .ok (.aload_n 0, 1) := by decide +kernel
theorem dX4_reads_7 : decode cX4_reads 7 = .ok (.getfield 19, 3) := by decide +kernel
theorem dX4_reads_10 : decode cX4_reads 10 = .ok (.iload_n 1, 1) := by decide +kernel
theorem dX4_reads_11 : decode cX4_reads 11 = .ok (.iaload, 1) := by decide +kernel
theorem dX4_reads_12 : decode cX4_reads 12 = .ok (.putfield 100, 3) := by decide +kernel
theorem dX4_reads_15 : decode cX4_reads 15 = .ok (.aload_n 0, 1) := by decide +kernel
theorem dX4_reads_16 : decode cX4_reads 16 = .ok (.iconst 0, 1) := by decide +kernel
theorem dX4_reads_17 : decode cX4_reads 17 = .ok (.putfield 97, 3) := by decide +kernel
theorem dX4_reads_20 : decode cX4_reads 20 = .ok (.aload_n 0, 1) := by decide +kernel
theorem dX4_reads_21 : decode cX4_reads 21 = .ok (.iconst 0, 1) := by decide +kernel
theorem dX4_reads_22 : decode cX4_reads 22 = .ok (.putfield 120, 3) := by decide +kernel
theorem dX4_reads_25 : decode cX4_reads 25 = .ok (.iconst 1, 1) := by decide +kernel
theorem dX4_reads_26 : decode cX4_reads 26 = .ok (.istore_n 2, 1) := by decide +kernel
theorem dX4_reads_27 : decode cX4_reads 27 = .ok (.aload_n 0, 1) := by decide +kernel
theorem dX4_reads_28 : decode cX4_reads 28 = .ok (.invokevirtual 127, 3) := by decide +kernel
theorem dX4_reads_31 : decode cX4_reads 31 = .ok (.aload_n 0, 1) := by decide +kernel
theorem dX4_reads_32 : decode cX4_reads 32 = .ok (.getfield 97, 3) := by decide +kernel
theorem dX4_reads_35 : decode cX4_reads 35 = .ok (.aload_n 0, 1) := by decide +kernel
theorem dX4_reads_36 : decode cX4_reads 36 = .ok (.getfield 100, 3) := by decide +kernel
theorem dX4_reads_39 : decode cX4_reads 39 = .ok (.if_icmp .ge 23, 3) := by decide +kernel
theorem dX4_reads_42 : decode cX4_reads 42 = .ok (.iload_n 2, 1) := by decide +kernel
theorem dX4_reads_43 : decode cX4_reads 43 = .ok (.ifCond .eq 19, 3) := by decide +kernel
theorem dX4_reads_46 : decode cX4_reads 46 = .ok (.aload_n 0, 1) := by decide +kernel
theorem dX4_reads_47 : decode cX4_reads 47 = .ok (.invokevirtual 130, 3) := by decide +kernel
theorem dX4_reads_50 : decode cX4_reads 50 = .ok (.istore_n 2, 1) := by decide +kernel
theorem dX4_reads_51 : decode cX4_reads 51 = .ok (.iload_n 2, 1) := by decide +kernel
theorem dX4_reads_52 : decode cX4_reads 52 = .ok (.ifCond .eq (-21), 3) := by decide +kernel
theorem dX4_reads_55 : decode cX4_reads 55 = .ok (.aload_n 0, 1) := by decide +kernel
theorem dX4_reads_56 : decode cX4_reads 56 = .ok (.invokevirtual 127, 3) := by decide +kernel
theorem dX4_reads_59 : decode cX4_reads 59 = .ok (.goto (-28), 3) := by decide +kernel
theorem dX4_reads_62 : decode cX4_reads 62 = .ok (.iload_n 2, 1) := by decide +kernel
theorem dX4_reads_63 : decode cX4_reads 63 = .ok (.ifCond .eq 16, 3) := by decide +kernel
theorem dX4_reads_66 : decode cX4_reads 66 = .ok (.aload_n 0, 1) := by decide +kernel
theorem dX4_reads_67 : decode cX4_reads 67 = .ok (.getfield 120, 3) := by decide +kernel
theorem dX4_reads_70 : decode cX4_reads 70 = .ok (.iconst 1, 1) := by decide +kernel
theorem dX4_reads_71 : decode cX4_reads 71 = .ok (.if_icmp .le 8, 3) := by decide +kernel
theorem dX4_reads_74 : decode cX4_reads 74 = .ok (.bipush (-9), 2) := by decide +kernel
theorem dX4_reads_76 : decode cX4_reads 76 = .ok (.goto 7, 3) := by decide +kernel
theorem dX4_reads_79 : decode cX4_reads 79 = .ok (.aload_n 0, 1) := by decide +kernel
theorem dX4_reads_80 : decode cX4_reads 80 = .ok (.getfield 97, 3) := by decide +kernel
theorem dX4_reads_83 : decode cX4_reads 83 = .ok (.ireturn, 1) := by decide +kernel
theorem dX4_fault_0 : decode cX4_fault 0 = .ok (.iload_n 1, 1) := by decide +kernel
theorem dX4_fault_1 : decode cX4_fault 1 = .ok (.invokestatic 91, 3) := by decide +kernel
theorem dX4_fault_4 : decode cX4_fault 4 = .ok (.ifCond .ne 5, 3) := by decide +kernel
theorem dX4_fault_7 : decode cX4_fault 7 = .ok (.iconst (-1), 1) := by decide +kernel
theorem dX4_fault_8 : decode cX4_fault 8 = .ok (.ireturn, 1) := by decide +kernel
theorem dX4_fault_9 : decode cX4_fault 9 = .ok (.aload_n 0, 1) := by decide +kernel
theorem dX4_fault_10 : decode cX4_fault 10 = .ok (.getfield 19, 3) := by decide +kernel
theorem dX4_fault_13 : decode cX4_fault 13 = .ok (.iload_n 1, 1) := by decide +kernel
theorem dX4_fault_14 : decode cX4_fault 14 = .ok (.iaload, 1) := by decide +kernel
theorem dX4_fault_15 : decode cX4_fault 15 = .ok (.ifCond .ge 11, 3) := by decide +kernel
theorem dX4_fault_18 : decode cX4_fault 18 = .ok (.aload_n 0, 1) := by decide +kernel
theorem dX4_fault_19 : decode cX4_fault 19 = .ok (.iconst 1, 1) := by decide +kernel
theorem dX4_fault_20 : decode cX4_fault 20 = .ok (.invokevirtual 84, 3) := by decide +kernel
theorem dX4_fault_23 : decode cX4_fault 23 = .ok (.goto 8, 3) := by decide +kernel
theorem dX4_fault_26 : decode cX4_fault 26 = .ok (.aload_n 0, 1) := by decide +kernel
theorem dX4_fault_27 : decode cX4_fault 27 = .ok (.iload_n 1, 1) := by decide +kernel
theorem dX4_fault_28 : decode cX4_fault 28 = .ok (.invokevirtual 133, 3) := by decide +kernel
theorem dX4_fault_31 : decode cX4_fault 31 = .ok (.ireturn, 1) := by decide +kernel
theorem dX4_house_0 : decode cX4_house 0 = .ok (.iload_n 1, 1) := by decide +kernel
theorem dX4_house_1 : decode cX4_house 1 = .ok (.invokestatic 91, 3) := by decide +kernel
theorem dX4_house_4 : decode cX4_house 4 = .ok (.ifCond .ne 5, 3) := by decide +kernel
theorem dX4_house_7 : decode cX4_house 7 = .ok (.iconst (-1), 1) := by decide +kernel
theorem dX4_house_8 : decode cX4_house 8 = .ok (.ireturn, 1) := by decide +kernel
theorem dX4_house_9 : decode cX4_house 9 = .ok (.aload_n 0, 1) := by decide +kernel
theorem dX4_house_10 : decode cX4_house 10 = .ok (.getfield 19, 3) := by decide +kernel
theorem dX4_house_13 : decode cX4_house 13 = .ok (.iload_n 1, 1) := by decide +kernel
theorem dX4_house_14 : decode cX4_house 14 = .ok (.iaload, 1) := by decide +kernel
theorem dX4_house_15 : decode cX4_house 15 = .ok (.ifCond .ge 9, 3) := by decide +kernel
theorem dX4_house_18 : decode cX4_house 18 = .ok (.aload_n 0, 1) := by decide +kernel
theorem dX4_house_19 : decode cX4_house 19 = .ok (.iconst 1, 1) := by decide +kernel
theorem dX4_house_20 : decode cX4_house 20 = .ok (.invokevirtual 84, 3) := by decide +kernel
theorem dX4_house_23 : decode cX4_house 23 = .ok (.ireturn, 1) := by decide +kernel
theorem dX4_house_24 : decode cX4_house 24 = .ok (.aload_n 0, 1) := by decide +kernel
theorem dX4_house_25 : decode cX4_house 25 = .ok (.iload_n 1, 1) := by decide +kernel
theorem dX4_house_26 : decode cX4_house 26 = .ok (.invokevirtual 133, 3) := by decide +kernel
theorem dX4_house_29 : decode cX4_house 29 = .ok (.bipush (-9), 2) := by decide +kernel
theorem dX4_house_31 : decode cX4_house 31 = .ok (.if_icmp .eq 6, 3) := by decide +kernel
theorem dX4_house_34 : decode cX4_house 34 = .ok (.bipush (-4), 2) := by decide +kernel
theorem dX4_house_36 : decode cX4_house 36 = .ok (.ireturn, 1) := by decide +kernel
theorem dX4_house_37 : decode cX4_house 37 = .ok (.aload_n 0, 1) := by decide +kernel
theorem dX4_house_38 : decode cX4_house 38 = .ok (.aload_n 0, 1) := by decide +kernel
theorem dX4_house_39 : decode cX4_house 39 = .ok (.getfield 120, 3) := by decide +kernel
theorem dX4_house_42 : decode cX4_house 42 = .ok (.putfield 136, 3) := by decide +kernel
theorem dX4_house_45 : decode cX4_house 45 = .ok (.iconst 0, 1) := by decide +kernel
theorem dX4_house_46 : decode cX4_house 46 = .ok (.istore_n 2, 1) := by decide +kernel
theorem dX4_house_47 : decode cX4_house 47 = .ok (.iload_n 2, 1) := by decide +kernel
theorem dX4_house_48 : decode cX4_house 48 = .ok (.aload_n 0, 1) := by decide +kernel
theorem dX4_house_49 : decode cX4_house 49 = .ok (.getfield 136, 3) := by decide +kernel
theorem dX4_house_52 : decode cX4_house 52 = .ok (.if_icmp .ge 87, 3) := by decide +kernel
theorem dX4_house_55 : decode cX4_house 55 = .ok (.aload_n 0, 1) := by decide +kernel
theorem dX4_house_56 : decode cX4_house 56 = .ok (.getfield 29, 3) := by decide +kernel
theorem dX4_house_59 : decode cX4_house 59 = .ok (.iload_n 2, 1) := by decide +kernel
theorem dX4_house_60 : decode cX4_house 60 = .ok (.aload_n 0, 1) := by decide +kernel
theorem dX4_house_61 : decode cX4_house 61 = .ok (.getfield 53, 3) := by decide +kernel
theorem dX4_house_64 : decode cX4_house 64 = .ok (.iconst 5, 1) := by decide +kernel
theorem dX4_house_65 : decode cX4_house 65 = .ok (.iload_n 2, 1) := by decide +kernel
theorem dX4_house_66 : decode cX4_house 66 = .ok (.imul, 1) := by decide +kernel
theorem dX4_house_67 : decode cX4_house 67 = .ok (.iaload, 1) := by decide +kernel
theorem dX4_house_68 : decode cX4_house 68 = .ok (.iastore, 1) := by decide +kernel
theorem dX4_house_69 : decode cX4_house 69 = .ok (.aload_n 0, 1) := by decide +kernel
theorem dX4_house_70 : decode cX4_house 70 = .ok (.getfield 32, 3) := by decide +kernel
theorem dX4_house_73 : decode cX4_house 73 = .ok (.iload_n 2, 1) := by decide +kernel
theorem dX4_house_74 : decode cX4_house 74 = .ok (.aload_n 0, 1) := by decide +kernel
theorem dX4_house_75 : decode cX4_house 75 = .ok (.getfield 53, 3) := by decide +kernel
theorem dX4_house_78 : decode cX4_house 78 = .ok (.iconst 5, 1) := by decide +kernel
theorem dX4_house_79 : decode cX4_house 79 = .ok (.iload_n 2, 1) := by decide +kernel
theorem dX4_house_80 : decode cX4_house 80 = .ok (.imul, 1) := by decide +kernel
theorem dX4_house_81 : decode cX4_house 81 = .ok (.iconst 1, 1) := by decide +kernel
theorem dX4_house_82 : decode cX4_house 82 = .ok (.iadd, 1) := by decide +kernel
theorem dX4_house_83 : decode cX4_house 83 = .ok (.iaload, 1) := by decide +kernel
theorem dX4_house_84 : decode cX4_house 84 = .ok (.iastore, 1) := by decide +kernel
theorem dX4_house_85 : decode cX4_house 85 = .ok (.aload_n 0, 1) := by decide +kernel
theorem dX4_house_86 : decode cX4_house 86 = .ok (.getfield 35, 3) := by decide +kernel
theorem dX4_house_89 : decode cX4_house 89 = .ok (.iload_n 2, 1) := by decide +kernel
theorem dX4_house_90 : decode cX4_house 90 = .ok (.aload_n 0, 1) := by decide +kernel
theorem dX4_house_91 : decode cX4_house 91 = .ok (.getfield 53, 3) := by decide +kernel
theorem dX4_house_94 : decode cX4_house 94 = .ok (.iconst 5, 1) := by decide +kernel
theorem dX4_house_95 : decode cX4_house 95 = .ok (.iload_n 2, 1) := by decide +kernel
theorem dX4_house_96 : decode cX4_house 96 = .ok (.imul, 1) := by decide +kernel
theorem dX4_house_97 : decode cX4_house 97 = .ok (.iconst 2, 1) := by decide +kernel
theorem dX4_house_98 : decode cX4_house 98 = .ok (.iadd, 1) := by decide +kernel
theorem dX4_house_99 : decode cX4_house 99 = .ok (.iaload, 1) := by decide +kernel
theorem dX4_house_100 : decode cX4_house 100 = .ok (.iastore, 1) := by decide +kernel
theorem dX4_house_101 : decode cX4_house 101 = .ok (.aload_n 0, 1) := by decide +kernel
theorem dX4_house_102 : decode cX4_house 102 = .ok (.getfield 38, 3) := by decide +kernel
theorem dX4_house_105 : decode cX4_house 105 = .ok (.iconst 1, 1) := by decide +kernel
theorem dX4_house_106 : decode cX4_house 106 = .ok (.iload_n 2, 1) := by decide +kernel
theorem dX4_house_107 : decode cX4_house 107 = .ok (.iadd, 1) := by decide +kernel
theorem dX4_house_108 : decode cX4_house 108 = .ok (.bipush 10, 2) := by decide +kernel
theorem dX4_house_110 : decode cX4_house 110 = .ok (.aload_n 0, 1) := by decide +kernel
theorem dX4_house_111 : decode cX4_house 111 = .ok (.getfield 53, 3) := by decide +kernel
theorem dX4_house_114 : decode cX4_house 114 = .ok (.iconst 5, 1) := by decide +kernel
theorem dX4_house_115 : decode cX4_house 115 = .ok (.iload_n 2, 1) := by decide +kernel
theorem dX4_house_116 : decode cX4_house 116 = .ok (.imul, 1) := by decide +kernel
theorem dX4_house_117 : decode cX4_house 117 = .ok (.iconst 3, 1) := by decide +kernel
theorem dX4_house_118 : decode cX4_house 118 = .ok (.iadd, 1) := by decide +kernel
theorem dX4_house_119 : decode cX4_house 119 = .ok (.iaload, 1) := by decide +kernel
theorem dX4_house_120 : decode cX4_house 120 = .ok (.imul, 1) := by decide +kernel
theorem dX4_house_121 : decode cX4_house 121 = .ok (.aload_n 0, 1) := by decide +kernel
theorem dX4_house_122 : decode cX4_house 122 = .ok (.getfield 53, 3) := by decide +kernel
theorem dX4_house_125 : decode cX4_house 125 = .ok (.iconst 5, 1) := by decide +kernel
theorem dX4_house_126 : decode cX4_house 126 = .ok (.iload_n 2, 1) := by decide +kernel
theorem dX4_house_127 : decode cX4_house 127 = .ok (.imul, 1) := by decide +kernel
theorem dX4_house_128 : decode cX4_house 128 = .ok (.iconst 4, 1) := by decide +kernel
theorem dX4_house_129 : decode cX4_house 129 = .ok (.iadd, 1) := by decide +kernel
theorem dX4_house_130 : decode cX4_house 130 = .ok (.iaload, 1) := by decide +kernel
theorem dX4_house_131 : decode cX4_house 131 = .ok (.iadd, 1) := by decide +kernel
theorem dX4_house_132 : decode cX4_house 132 = .ok (.iastore, 1) := by decide +kernel
theorem dX4_house_133 : decode cX4_house 133 = .ok (.iinc 2 1, 3) := by decide +kernel
theorem dX4_house_136 : decode cX4_house 136 = .ok (.goto (-89), 3) := by decide +kernel
theorem dX4_house_139 : decode cX4_house 139 = .ok (.aload_n 0, 1) := by decide +kernel
theorem dX4_house_140 : decode cX4_house 140 = .ok (.invokevirtual 62, 3) := by decide +kernel
theorem dX4_house_143 : decode cX4_house 143 = .ok (.aload_n 0, 1) := by decide +kernel
theorem dX4_house_144 : decode cX4_house 144 = .ok (.getfield 136, 3) := by decide +kernel
theorem dX4_house_147 : decode cX4_house 147 = .ok (.ireturn, 1) := by decide +kernel
theorem dX4_isOne_0 : decode cX4_isOne 0 = .ok (.iload_n 1, 1) := by decide +kernel
theorem dX4_isOne_1 : decode cX4_isOne 1 = .ok (.i2l, 1) := by decide +kernel
theorem dX4_isOne_2 : decode cX4_isOne 2 = .ok (.lconst 0, 1) := by decide +kernel
theorem dX4_isOne_3 : decode cX4_isOne 3 = .ok (.aload_n 0, 1) := by decide +kernel
theorem dX4_isOne_4 : decode cX4_isOne 4 = .ok (.getfield 136, 3) := by decide +kernel
end
section
theorem dX4_isOne_7 : decode cX4_isOne 7 = .ok (.iconst 1, 1) := by decide +kernel
theorem dX4_isOne_8 : decode cX4_isOne 8 = .ok (.isub, 1) := by decide +kernel
theorem dX4_isOne_9 : decode cX4_isOne 9 = .ok (.i2l, 1) := by decide +kernel
theorem dX4_isOne_10 : decode cX4_isOne 10 = .ok (.invokestatic 74, 3) := by decide +kernel
theorem dX4_isOne_13 : decode cX4_isOne 13 = .ok (.ireturn, 1) := by decide +kernel
theorem dX4_lesser_0 : decode cX4_lesser 0 = .ok (.iload_n 0, 1) := by decide +kernel
theorem dX4_lesser_1 : decode cX4_lesser 1 = .ok (.iload_n 1, 1) := by decide +kernel
theorem dX4_lesser_2 : decode cX4_lesser 2 = .ok (.if_icmp .ge 7, 3) := by decide +kernel
theorem dX4_lesser_5 : decode cX4_lesser 5 = .ok (.iload_n 0, 1) := by decide +kernel
theorem dX4_lesser_6 : decode cX4_lesser 6 = .ok (.goto 4, 3) := by decide +kernel
theorem dX4_lesser_9 : decode cX4_lesser 9 = .ok (.iload_n 1, 1) := by decide +kernel
theorem dX4_lesser_10 : decode cX4_lesser 10 = .ok (.ireturn, 1) := by decide +kernel
theorem dX4_greater_0 : decode cX4_greater 0 = .ok (.iload_n 0, 1) := by decide +kernel
theorem dX4_greater_1 : decode cX4_greater 1 = .ok (.iload_n 1, 1) := by decide +kernel
theorem dX4_greater_2 : decode cX4_greater 2 = .ok (.if_icmp .le 7, 3) := by decide +kernel
theorem dX4_greater_5 : decode cX4_greater 5 = .ok (.iload_n 0, 1) := by decide +kernel
theorem dX4_greater_6 : decode cX4_greater 6 = .ok (.goto 4, 3) := by decide +kernel
theorem dX4_greater_9 : decode cX4_greater 9 = .ok (.iload_n 1, 1) := by decide +kernel
theorem dX4_greater_10 : decode cX4_greater 10 = .ok (.ireturn, 1) := by decide +kernel
theorem dX4_regardBy_0 : decode cX4_regardBy 0 = .ok (.iconst 0, 1) := by decide +kernel
theorem dX4_regardBy_1 : decode cX4_regardBy 1 = .ok (.iload_n 1, 1) := by decide +kernel
theorem dX4_regardBy_2 : decode cX4_regardBy 2 = .ok (.iconst 2, 1) := by decide +kernel
theorem dX4_regardBy_3 : decode cX4_regardBy 3 = .ok (.iload_n 2, 1) := by decide +kernel
theorem dX4_regardBy_4 : decode cX4_regardBy 4 = .ok (.imul, 1) := by decide +kernel
theorem dX4_regardBy_5 : decode cX4_regardBy 5 = .ok (.isub, 1) := by decide +kernel
theorem dX4_regardBy_6 : decode cX4_regardBy 6 = .ok (.invokestatic 139, 3) := by decide +kernel
theorem dX4_regardBy_9 : decode cX4_regardBy 9 = .ok (.istore 4, 2) := by decide +kernel
theorem dX4_regardBy_11 : decode cX4_regardBy 11 = .ok (.iload_n 3, 1) := by decide +kernel
theorem dX4_regardBy_12 : decode cX4_regardBy 12 = .ok (.bipush 19, 2) := by decide +kernel
theorem dX4_regardBy_14 : decode cX4_regardBy 14 = .ok (.if_icmp .le 10, 3) := by decide +kernel
theorem dX4_regardBy_17 : decode cX4_regardBy 17 = .ok (.iload 4, 2) := by decide +kernel
theorem dX4_regardBy_19 : decode cX4_regardBy 19 = .ok (.iconst 2, 1) := by decide +kernel
theorem dX4_regardBy_20 : decode cX4_regardBy 20 = .ok (.iadd, 1) := by decide +kernel
theorem dX4_regardBy_21 : decode cX4_regardBy 21 = .ok (.goto 5, 3) := by decide +kernel
theorem dX4_regardBy_24 : decode cX4_regardBy 24 = .ok (.iload 4, 2) := by decide +kernel
theorem dX4_regardBy_26 : decode cX4_regardBy 26 = .ok (.istore 5, 2) := by decide +kernel
theorem dX4_regardBy_28 : decode cX4_regardBy 28 = .ok (.iload_n 3, 1) := by decide +kernel
theorem dX4_regardBy_29 : decode cX4_regardBy 29 = .ok (.bipush 10, 2) := by decide +kernel
theorem dX4_regardBy_31 : decode cX4_regardBy 31 = .ok (.if_icmp .ge 14, 3) := by decide +kernel
theorem dX4_regardBy_34 : decode cX4_regardBy 34 = .ok (.iconst 0, 1) := by decide +kernel
theorem dX4_regardBy_35 : decode cX4_regardBy 35 = .ok (.iload 4, 2) := by decide +kernel
theorem dX4_regardBy_37 : decode cX4_regardBy 37 = .ok (.iconst 1, 1) := by decide +kernel
theorem dX4_regardBy_38 : decode cX4_regardBy 38 = .ok (.isub, 1) := by decide +kernel
theorem dX4_regardBy_39 : decode cX4_regardBy 39 = .ok (.invokestatic 139, 3) := by decide +kernel
theorem dX4_regardBy_42 : decode cX4_regardBy 42 = .ok (.goto 5, 3) := by decide +kernel
theorem dX4_regardBy_45 : decode cX4_regardBy 45 = .ok (.iload 4, 2) := by decide +kernel
theorem dX4_regardBy_47 : decode cX4_regardBy 47 = .ok (.istore 6, 2) := by decide +kernel
theorem dX4_regardBy_49 : decode cX4_regardBy 49 = .ok (.iload_n 0, 1) := by decide +kernel
theorem dX4_regardBy_50 : decode cX4_regardBy 50 = .ok (.tableswitch 63 1 5 #[34, 37, 50, 53, 58], 34) := by decide +kernel
theorem dX4_regardBy_84 : decode cX4_regardBy 84 = .ok (.iload 5, 2) := by decide +kernel
theorem dX4_regardBy_86 : decode cX4_regardBy 86 = .ok (.ireturn, 1) := by decide +kernel
theorem dX4_regardBy_87 : decode cX4_regardBy 87 = .ok (.iload 4, 2) := by decide +kernel
theorem dX4_regardBy_89 : decode cX4_regardBy 89 = .ok (.bipush 9, 2) := by decide +kernel
theorem dX4_regardBy_91 : decode cX4_regardBy 91 = .ok (.iload_n 3, 1) := by decide +kernel
theorem dX4_regardBy_92 : decode cX4_regardBy 92 = .ok (.bipush 10, 2) := by decide +kernel
theorem dX4_regardBy_94 : decode cX4_regardBy 94 = .ok (.idiv, 1) := by decide +kernel
theorem dX4_regardBy_95 : decode cX4_regardBy 95 = .ok (.invokestatic 143, 3) := by decide +kernel
theorem dX4_regardBy_98 : decode cX4_regardBy 98 = .ok (.iadd, 1) := by decide +kernel
theorem dX4_regardBy_99 : decode cX4_regardBy 99 = .ok (.ireturn, 1) := by decide +kernel
theorem dX4_regardBy_100 : decode cX4_regardBy 100 = .ok (.iload 6, 2) := by decide +kernel
theorem dX4_regardBy_102 : decode cX4_regardBy 102 = .ok (.ireturn, 1) := by decide +kernel
theorem dX4_regardBy_103 : decode cX4_regardBy 103 = .ok (.iconst 2, 1) := by decide +kernel
theorem dX4_regardBy_104 : decode cX4_regardBy 104 = .ok (.iload 5, 2) := by decide +kernel
theorem dX4_regardBy_106 : decode cX4_regardBy 106 = .ok (.imul, 1) := by decide +kernel
theorem dX4_regardBy_107 : decode cX4_regardBy 107 = .ok (.ireturn, 1) := by decide +kernel
theorem dX4_regardBy_108 : decode cX4_regardBy 108 = .ok (.iload 6, 2) := by decide +kernel
theorem dX4_regardBy_110 : decode cX4_regardBy 110 = .ok (.iconst 2, 1) := by decide +kernel
theorem dX4_regardBy_111 : decode cX4_regardBy 111 = .ok (.idiv, 1) := by decide +kernel
theorem dX4_regardBy_112 : decode cX4_regardBy 112 = .ok (.ireturn, 1) := by decide +kernel
theorem dX4_regardBy_113 : decode cX4_regardBy 113 = .ok (.iload 4, 2) := by decide +kernel
theorem dX4_regardBy_115 : decode cX4_regardBy 115 = .ok (.ireturn, 1) := by decide +kernel
theorem dX4_regardAs_0 : decode cX4_regardAs 0 = .ok (.iload_n 1, 1) := by decide +kernel
theorem dX4_regardAs_1 : decode cX4_regardAs 1 = .ok (.aload_n 0, 1) := by decide +kernel
theorem dX4_regardAs_2 : decode cX4_regardAs 2 = .ok (.getfield 32, 3) := by decide +kernel
theorem dX4_regardAs_5 : decode cX4_regardAs 5 = .ok (.iload_n 2, 1) := by decide +kernel
theorem dX4_regardAs_6 : decode cX4_regardAs 6 = .ok (.iaload, 1) := by decide +kernel
theorem dX4_regardAs_7 : decode cX4_regardAs 7 = .ok (.aload_n 0, 1) := by decide +kernel
theorem dX4_regardAs_8 : decode cX4_regardAs 8 = .ok (.getfield 38, 3) := by decide +kernel
theorem dX4_regardAs_11 : decode cX4_regardAs 11 = .ok (.bipush 7, 2) := by decide +kernel
theorem dX4_regardAs_13 : decode cX4_regardAs 13 = .ok (.iload_n 2, 1) := by decide +kernel
theorem dX4_regardAs_14 : decode cX4_regardAs 14 = .ok (.iadd, 1) := by decide +kernel
theorem dX4_regardAs_15 : decode cX4_regardAs 15 = .ok (.iaload, 1) := by decide +kernel
theorem dX4_regardAs_16 : decode cX4_regardAs 16 = .ok (.aload_n 0, 1) := by decide +kernel
theorem dX4_regardAs_17 : decode cX4_regardAs 17 = .ok (.getfield 38, 3) := by decide +kernel
theorem dX4_regardAs_20 : decode cX4_regardAs 20 = .ok (.iconst 1, 1) := by decide +kernel
theorem dX4_regardAs_21 : decode cX4_regardAs 21 = .ok (.iload_n 2, 1) := by decide +kernel
theorem dX4_regardAs_22 : decode cX4_regardAs 22 = .ok (.iadd, 1) := by decide +kernel
theorem dX4_regardAs_23 : decode cX4_regardAs 23 = .ok (.iaload, 1) := by decide +kernel
theorem dX4_regardAs_24 : decode cX4_regardAs 24 = .ok (.invokestatic 146, 3) := by decide +kernel
theorem dX4_regardAs_27 : decode cX4_regardAs 27 = .ok (.ireturn, 1) := by decide +kernel
theorem dX4_laysRegards_0 : decode cX4_laysRegards 0 = .ok (.iconst 0, 1) := by decide +kernel
theorem dX4_laysRegards_1 : decode cX4_laysRegards 1 = .ok (.istore_n 2, 1) := by decide +kernel
theorem dX4_laysRegards_2 : decode cX4_laysRegards 2 = .ok (.iconst 0, 1) := by decide +kernel
theorem dX4_laysRegards_3 : decode cX4_laysRegards 3 = .ok (.istore_n 3, 1) := by decide +kernel
theorem dX4_laysRegards_4 : decode cX4_laysRegards 4 = .ok (.iload_n 3, 1) := by decide +kernel
theorem dX4_laysRegards_5 : decode cX4_laysRegards 5 = .ok (.aload_n 0, 1) := by decide +kernel
theorem dX4_laysRegards_6 : decode cX4_laysRegards 6 = .ok (.getfield 136, 3) := by decide +kernel
theorem dX4_laysRegards_9 : decode cX4_laysRegards 9 = .ok (.if_icmp .ge 52, 3) := by decide +kernel
theorem dX4_laysRegards_12 : decode cX4_laysRegards 12 = .ok (.aload_n 0, 1) := by decide +kernel
theorem dX4_laysRegards_13 : decode cX4_laysRegards 13 = .ok (.getfield 44, 3) := by decide +kernel
theorem dX4_laysRegards_16 : decode cX4_laysRegards 16 = .ok (.iload_n 3, 1) := by decide +kernel
theorem dX4_laysRegards_17 : decode cX4_laysRegards 17 = .ok (.aload_n 0, 1) := by decide +kernel
theorem dX4_laysRegards_18 : decode cX4_laysRegards 18 = .ok (.getfield 29, 3) := by decide +kernel
theorem dX4_laysRegards_21 : decode cX4_laysRegards 21 = .ok (.iload_n 3, 1) := by decide +kernel
theorem dX4_laysRegards_22 : decode cX4_laysRegards 22 = .ok (.iaload, 1) := by decide +kernel
theorem dX4_laysRegards_23 : decode cX4_laysRegards 23 = .ok (.aload_n 0, 1) := by decide +kernel
theorem dX4_laysRegards_24 : decode cX4_laysRegards 24 = .ok (.getfield 32, 3) := by decide +kernel
theorem dX4_laysRegards_27 : decode cX4_laysRegards 27 = .ok (.iload_n 3, 1) := by decide +kernel
theorem dX4_laysRegards_28 : decode cX4_laysRegards 28 = .ok (.iaload, 1) := by decide +kernel
theorem dX4_laysRegards_29 : decode cX4_laysRegards 29 = .ok (.aload_n 1, 1) := by decide +kernel
theorem dX4_laysRegards_30 : decode cX4_laysRegards 30 = .ok (.bipush 7, 2) := by decide +kernel
theorem dX4_laysRegards_32 : decode cX4_laysRegards 32 = .ok (.iload_n 3, 1) := by decide +kernel
theorem dX4_laysRegards_33 : decode cX4_laysRegards 33 = .ok (.iadd, 1) := by decide +kernel
theorem dX4_laysRegards_34 : decode cX4_laysRegards 34 = .ok (.iaload, 1) := by decide +kernel
theorem dX4_laysRegards_35 : decode cX4_laysRegards 35 = .ok (.aload_n 1, 1) := by decide +kernel
theorem dX4_laysRegards_36 : decode cX4_laysRegards 36 = .ok (.iconst 1, 1) := by decide +kernel
theorem dX4_laysRegards_37 : decode cX4_laysRegards 37 = .ok (.iload_n 3, 1) := by decide +kernel
theorem dX4_laysRegards_38 : decode cX4_laysRegards 38 = .ok (.iadd, 1) := by decide +kernel
theorem dX4_laysRegards_39 : decode cX4_laysRegards 39 = .ok (.iaload, 1) := by decide +kernel
theorem dX4_laysRegards_40 : decode cX4_laysRegards 40 = .ok (.invokestatic 146, 3) := by decide +kernel
theorem dX4_laysRegards_43 : decode cX4_laysRegards 43 = .ok (.iastore, 1) := by decide +kernel
theorem dX4_laysRegards_44 : decode cX4_laysRegards 44 = .ok (.iload_n 2, 1) := by decide +kernel
theorem dX4_laysRegards_45 : decode cX4_laysRegards 45 = .ok (.aload_n 0, 1) := by decide +kernel
theorem dX4_laysRegards_46 : decode cX4_laysRegards 46 = .ok (.getfield 44, 3) := by decide +kernel
theorem dX4_laysRegards_49 : decode cX4_laysRegards 49 = .ok (.iload_n 3, 1) := by decide +kernel
theorem dX4_laysRegards_50 : decode cX4_laysRegards 50 = .ok (.iaload, 1) := by decide +kernel
theorem dX4_laysRegards_51 : decode cX4_laysRegards 51 = .ok (.invokestatic 139, 3) := by decide +kernel
theorem dX4_laysRegards_54 : decode cX4_laysRegards 54 = .ok (.istore_n 2, 1) := by decide +kernel
theorem dX4_laysRegards_55 : decode cX4_laysRegards 55 = .ok (.iinc 3 1, 3) := by decide +kernel
theorem dX4_laysRegards_58 : decode cX4_laysRegards 58 = .ok (.goto (-54), 3) := by decide +kernel
theorem dX4_laysRegards_61 : decode cX4_laysRegards 61 = .ok (.iload_n 2, 1) := by decide +kernel
theorem dX4_laysRegards_62 : decode cX4_laysRegards 62 = .ok (.ireturn, 1) := by decide +kernel
theorem dX4_gives_0 : decode cX4_gives 0 = .ok (.iconst 0, 1) := by decide +kernel
theorem dX4_gives_1 : decode cX4_gives 1 = .ok (.istore_n 2, 1) := by decide +kernel
theorem dX4_gives_2 : decode cX4_gives 2 = .ok (.iconst 0, 1) := by decide +kernel
theorem dX4_gives_3 : decode cX4_gives 3 = .ok (.istore_n 3, 1) := by decide +kernel
theorem dX4_gives_4 : decode cX4_gives 4 = .ok (.iload_n 3, 1) := by decide +kernel
theorem dX4_gives_5 : decode cX4_gives 5 = .ok (.aload_n 0, 1) := by decide +kernel
theorem dX4_gives_6 : decode cX4_gives 6 = .ok (.getfield 136, 3) := by decide +kernel
theorem dX4_gives_9 : decode cX4_gives 9 = .ok (.if_icmp .ge 20, 3) := by decide +kernel
theorem dX4_gives_12 : decode cX4_gives 12 = .ok (.iload_n 2, 1) := by decide +kernel
theorem dX4_gives_13 : decode cX4_gives 13 = .ok (.iload_n 1, 1) := by decide +kernel
theorem dX4_gives_14 : decode cX4_gives 14 = .ok (.aload_n 0, 1) := by decide +kernel
theorem dX4_gives_15 : decode cX4_gives 15 = .ok (.getfield 44, 3) := by decide +kernel
theorem dX4_gives_18 : decode cX4_gives 18 = .ok (.iload_n 3, 1) := by decide +kernel
theorem dX4_gives_19 : decode cX4_gives 19 = .ok (.iaload, 1) := by decide +kernel
theorem dX4_gives_20 : decode cX4_gives 20 = .ok (.isub, 1) := by decide +kernel
theorem dX4_gives_21 : decode cX4_gives 21 = .ok (.iadd, 1) := by decide +kernel
theorem dX4_gives_22 : decode cX4_gives 22 = .ok (.istore_n 2, 1) := by decide +kernel
theorem dX4_gives_23 : decode cX4_gives 23 = .ok (.iinc 3 1, 3) := by decide +kernel
theorem dX4_gives_26 : decode cX4_gives 26 = .ok (.goto (-22), 3) := by decide +kernel
theorem dX4_gives_29 : decode cX4_gives 29 = .ok (.iload_n 2, 1) := by decide +kernel
theorem dX4_gives_30 : decode cX4_gives 30 = .ok (.ireturn, 1) := by decide +kernel
theorem dX4_goes_0 : decode cX4_goes 0 = .ok (.aload_n 0, 1) := by decide +kernel
theorem dX4_goes_1 : decode cX4_goes 1 = .ok (.aload_n 1, 1) := by decide +kernel
theorem dX4_goes_2 : decode cX4_goes 2 = .ok (.invokevirtual 150, 3) := by decide +kernel
theorem dX4_goes_5 : decode cX4_goes 5 = .ok (.istore_n 2, 1) := by decide +kernel
theorem dX4_goes_6 : decode cX4_goes 6 = .ok (.iconst 0, 1) := by decide +kernel
theorem dX4_goes_7 : decode cX4_goes 7 = .ok (.istore_n 3, 1) := by decide +kernel
theorem dX4_goes_8 : decode cX4_goes 8 = .ok (.iload_n 3, 1) := by decide +kernel
theorem dX4_goes_9 : decode cX4_goes 9 = .ok (.aload_n 0, 1) := by decide +kernel
theorem dX4_goes_10 : decode cX4_goes 10 = .ok (.getfield 136, 3) := by decide +kernel
theorem dX4_goes_13 : decode cX4_goes 13 = .ok (.if_icmp .ge 44, 3) := by decide +kernel
theorem dX4_goes_16 : decode cX4_goes 16 = .ok (.aload_n 1, 1) := by decide +kernel
theorem dX4_goes_17 : decode cX4_goes 17 = .ok (.iconst 1, 1) := by decide +kernel
theorem dX4_goes_18 : decode cX4_goes 18 = .ok (.iload_n 3, 1) := by decide +kernel
theorem dX4_goes_19 : decode cX4_goes 19 = .ok (.iadd, 1) := by decide +kernel
theorem dX4_goes_20 : decode cX4_goes 20 = .ok (.iconst 0, 1) := by decide +kernel
theorem dX4_goes_21 : decode cX4_goes 21 = .ok (.bipush 99, 2) := by decide +kernel
theorem dX4_goes_23 : decode cX4_goes 23 = .ok (.aload_n 1, 1) := by decide +kernel
theorem dX4_goes_24 : decode cX4_goes 24 = .ok (.iconst 1, 1) := by decide +kernel
theorem dX4_goes_25 : decode cX4_goes 25 = .ok (.iload_n 3, 1) := by decide +kernel
theorem dX4_goes_26 : decode cX4_goes 26 = .ok (.iadd, 1) := by decide +kernel
theorem dX4_goes_27 : decode cX4_goes 27 = .ok (.iaload, 1) := by decide +kernel
theorem dX4_goes_28 : decode cX4_goes 28 = .ok (.iload_n 2, 1) := by decide +kernel
theorem dX4_goes_29 : decode cX4_goes 29 = .ok (.iadd, 1) := by decide +kernel
theorem dX4_goes_30 : decode cX4_goes 30 = .ok (.aload_n 0, 1) := by decide +kernel
theorem dX4_goes_31 : decode cX4_goes 31 = .ok (.getfield 44, 3) := by decide +kernel
theorem dX4_goes_34 : decode cX4_goes 34 = .ok (.iload_n 3, 1) := by decide +kernel
theorem dX4_goes_35 : decode cX4_goes 35 = .ok (.iaload, 1) := by decide +kernel
theorem dX4_goes_36 : decode cX4_goes 36 = .ok (.isub, 1) := by decide +kernel
theorem dX4_goes_37 : decode cX4_goes 37 = .ok (.aload_n 0, 1) := by decide +kernel
theorem dX4_goes_38 : decode cX4_goes 38 = .ok (.getfield 35, 3) := by decide +kernel
theorem dX4_goes_41 : decode cX4_goes 41 = .ok (.iload_n 3, 1) := by decide +kernel
theorem dX4_goes_42 : decode cX4_goes 42 = .ok (.iaload, 1) := by decide +kernel
theorem dX4_goes_43 : decode cX4_goes 43 = .ok (.isub, 1) := by decide +kernel
theorem dX4_goes_44 : decode cX4_goes 44 = .ok (.invokestatic 143, 3) := by decide +kernel
theorem dX4_goes_47 : decode cX4_goes 47 = .ok (.invokestatic 139, 3) := by decide +kernel
theorem dX4_goes_50 : decode cX4_goes 50 = .ok (.iastore, 1) := by decide +kernel
theorem dX4_goes_51 : decode cX4_goes 51 = .ok (.iinc 3 1, 3) := by decide +kernel
theorem dX4_goes_54 : decode cX4_goes 54 = .ok (.goto (-46), 3) := by decide +kernel
theorem dX4_goes_57 : decode cX4_goes 57 = .ok (.aload_n 1, 1) := by decide +kernel
theorem dX4_goes_58 : decode cX4_goes 58 = .ok (.iconst 0, 1) := by decide +kernel
theorem dX4_goes_59 : decode cX4_goes 59 = .ok (.dup2, 1) := by decide +kernel
theorem dX4_goes_60 : decode cX4_goes 60 = .ok (.iaload, 1) := by decide +kernel
theorem dX4_goes_61 : decode cX4_goes 61 = .ok (.iconst 1, 1) := by decide +kernel
theorem dX4_goes_62 : decode cX4_goes 62 = .ok (.iadd, 1) := by decide +kernel
theorem dX4_goes_63 : decode cX4_goes 63 = .ok (.iastore, 1) := by decide +kernel
theorem dX4_goes_64 : decode cX4_goes 64 = .ok (.aload_n 0, 1) := by decide +kernel
theorem dX4_goes_65 : decode cX4_goes 65 = .ok (.iload_n 2, 1) := by decide +kernel
theorem dX4_goes_66 : decode cX4_goes 66 = .ok (.invokevirtual 154, 3) := by decide +kernel
theorem dX4_goes_69 : decode cX4_goes 69 = .ok (.ireturn, 1) := by decide +kernel
theorem dX4_paid_0 : decode cX4_paid 0 = .ok (.aload_n 0, 1) := by decide +kernel
theorem dX4_paid_1 : decode cX4_paid 1 = .ok (.aload_n 0, 1) := by decide +kernel
theorem dX4_paid_2 : decode cX4_paid 2 = .ok (.getfield 38, 3) := by decide +kernel
theorem dX4_paid_5 : decode cX4_paid 5 = .ok (.invokevirtual 150, 3) := by decide +kernel
theorem dX4_paid_8 : decode cX4_paid 8 = .ok (.istore_n 2, 1) := by decide +kernel
theorem dX4_paid_9 : decode cX4_paid 9 = .ok (.iload_n 2, 1) := by decide +kernel
theorem dX4_paid_10 : decode cX4_paid 10 = .ok (.aload_n 0, 1) := by decide +kernel
theorem dX4_paid_11 : decode cX4_paid 11 = .ok (.getfield 44, 3) := by decide +kernel
theorem dX4_paid_14 : decode cX4_paid 14 = .ok (.iload_n 1, 1) := by decide +kernel
theorem dX4_paid_15 : decode cX4_paid 15 = .ok (.iaload, 1) := by decide +kernel
theorem dX4_paid_16 : decode cX4_paid 16 = .ok (.isub, 1) := by decide +kernel
theorem dX4_paid_17 : decode cX4_paid 17 = .ok (.ireturn, 1) := by decide +kernel
theorem dX4_one_0 : decode cX4_one 0 = .ok (.aload_n 0, 1) := by decide +kernel
theorem dX4_one_1 : decode cX4_one 1 = .ok (.iload_n 1, 1) := by decide +kernel
theorem dX4_one_2 : decode cX4_one 2 = .ok (.invokevirtual 157, 3) := by decide +kernel
theorem dX4_one_5 : decode cX4_one 5 = .ok (.ifCond .eq 15, 3) := by decide +kernel
theorem dX4_one_8 : decode cX4_one 8 = .ok (.iload_n 2, 1) := by decide +kernel
theorem dX4_one_9 : decode cX4_one 9 = .ok (.i2l, 1) := by decide +kernel
theorem dX4_one_10 : decode cX4_one 10 = .ok (.lconst 0, 1) := by decide +kernel
theorem dX4_one_11 : decode cX4_one 11 = .ok (.ldc2_w 160, 3) := by decide +kernel
theorem dX4_one_14 : decode cX4_one 14 = .ok (.invokestatic 74, 3) := by decide +kernel
theorem dX4_one_17 : decode cX4_one 17 = .ok (.ifCond .ne 5, 3) := by decide +kernel
theorem dX4_one_20 : decode cX4_one 20 = .ok (.iconst (-1), 1) := by decide +kernel
theorem dX4_one_21 : decode cX4_one 21 = .ok (.ireturn, 1) := by decide +kernel
theorem dX4_one_22 : decode cX4_one 22 = .ok (.iload_n 2, 1) := by decide +kernel
theorem dX4_one_23 : decode cX4_one 23 = .ok (.tableswitch 113 0 5 #[37, 48, 59, 70, 83, 97], 37) := by decide +kernel
theorem dX4_one_60 : decode cX4_one 60 = .ok (.aload_n 0, 1) := by decide +kernel
theorem dX4_one_61 : decode cX4_one 61 = .ok (.aload_n 0, 1) := by decide +kernel
theorem dX4_one_62 : decode cX4_one 62 = .ok (.getfield 29, 3) := by decide +kernel
theorem dX4_one_65 : decode cX4_one 65 = .ok (.iload_n 1, 1) := by decide +kernel
theorem dX4_one_66 : decode cX4_one 66 = .ok (.iaload, 1) := by decide +kernel
theorem dX4_one_67 : decode cX4_one 67 = .ok (.invokevirtual 88, 3) := by decide +kernel
theorem dX4_one_70 : decode cX4_one 70 = .ok (.ireturn, 1) := by decide +kernel
theorem dX4_one_71 : decode cX4_one 71 = .ok (.aload_n 0, 1) := by decide +kernel
theorem dX4_one_72 : decode cX4_one 72 = .ok (.aload_n 0, 1) := by decide +kernel
theorem dX4_one_73 : decode cX4_one 73 = .ok (.getfield 32, 3) := by decide +kernel
theorem dX4_one_76 : decode cX4_one 76 = .ok (.iload_n 1, 1) := by decide +kernel
theorem dX4_one_77 : decode cX4_one 77 = .ok (.iaload, 1) := by decide +kernel
theorem dX4_one_78 : decode cX4_one 78 = .ok (.invokevirtual 88, 3) := by decide +kernel
theorem dX4_one_81 : decode cX4_one 81 = .ok (.ireturn, 1) := by decide +kernel
theorem dX4_one_82 : decode cX4_one 82 = .ok (.aload_n 0, 1) := by decide +kernel
theorem dX4_one_83 : decode cX4_one 83 = .ok (.aload_n 0, 1) := by decide +kernel
theorem dX4_one_84 : decode cX4_one 84 = .ok (.getfield 35, 3) := by decide +kernel
theorem dX4_one_87 : decode cX4_one 87 = .ok (.iload_n 1, 1) := by decide +kernel
theorem dX4_one_88 : decode cX4_one 88 = .ok (.iaload, 1) := by decide +kernel
theorem dX4_one_89 : decode cX4_one 89 = .ok (.invokevirtual 88, 3) := by decide +kernel
theorem dX4_one_92 : decode cX4_one 92 = .ok (.ireturn, 1) := by decide +kernel
theorem dX4_one_93 : decode cX4_one 93 = .ok (.aload_n 0, 1) := by decide +kernel
theorem dX4_one_94 : decode cX4_one 94 = .ok (.aload_n 0, 1) := by decide +kernel
theorem dX4_one_95 : decode cX4_one 95 = .ok (.getfield 38, 3) := by decide +kernel
theorem dX4_one_98 : decode cX4_one 98 = .ok (.iconst 1, 1) := by decide +kernel
theorem dX4_one_99 : decode cX4_one 99 = .ok (.iload_n 1, 1) := by decide +kernel
theorem dX4_one_100 : decode cX4_one 100 = .ok (.iadd, 1) := by decide +kernel
theorem dX4_one_101 : decode cX4_one 101 = .ok (.iaload, 1) := by decide +kernel
theorem dX4_one_102 : decode cX4_one 102 = .ok (.invokevirtual 88, 3) := by decide +kernel
theorem dX4_one_105 : decode cX4_one 105 = .ok (.ireturn, 1) := by decide +kernel
theorem dX4_one_106 : decode cX4_one 106 = .ok (.aload_n 0, 1) := by decide +kernel
theorem dX4_one_107 : decode cX4_one 107 = .ok (.aload_n 0, 1) := by decide +kernel
theorem dX4_one_108 : decode cX4_one 108 = .ok (.getfield 38, 3) := by decide +kernel
theorem dX4_one_111 : decode cX4_one 111 = .ok (.bipush 7, 2) := by decide +kernel
theorem dX4_one_113 : decode cX4_one 113 = .ok (.iload_n 1, 1) := by decide +kernel
theorem dX4_one_114 : decode cX4_one 114 = .ok (.iadd, 1) := by decide +kernel
theorem dX4_one_115 : decode cX4_one 115 = .ok (.iaload, 1) := by decide +kernel
theorem dX4_one_116 : decode cX4_one 116 = .ok (.invokevirtual 88, 3) := by decide +kernel
theorem dX4_one_119 : decode cX4_one 119 = .ok (.ireturn, 1) := by decide +kernel
theorem dX4_one_120 : decode cX4_one 120 = .ok (.aload_n 0, 1) := by decide +kernel
theorem dX4_one_121 : decode cX4_one 121 = .ok (.aload_n 0, 1) := by decide +kernel
theorem dX4_one_122 : decode cX4_one 122 = .ok (.aload_n 0, 1) := by decide +kernel
theorem dX4_one_123 : decode cX4_one 123 = .ok (.getfield 29, 3) := by decide +kernel
theorem dX4_one_126 : decode cX4_one 126 = .ok (.iload_n 1, 1) := by decide +kernel
theorem dX4_one_127 : decode cX4_one 127 = .ok (.iaload, 1) := by decide +kernel
theorem dX4_one_128 : decode cX4_one 128 = .ok (.iload_n 1, 1) := by decide +kernel
theorem dX4_one_129 : decode cX4_one 129 = .ok (.invokevirtual 162, 3) := by decide +kernel
theorem dX4_one_132 : decode cX4_one 132 = .ok (.invokevirtual 88, 3) := by decide +kernel
theorem dX4_one_135 : decode cX4_one 135 = .ok (.ireturn, 1) := by decide +kernel
theorem dX4_one_136 : decode cX4_one 136 = .ok (.aload_n 0, 1) := by decide +kernel
theorem dX4_one_137 : decode cX4_one 137 = .ok (.aload_n 0, 1) := by decide +kernel
theorem dX4_one_138 : decode cX4_one 138 = .ok (.iload_n 1, 1) := by decide +kernel
theorem dX4_one_139 : decode cX4_one 139 = .ok (.invokevirtual 165, 3) := by decide +kernel
theorem dX4_one_142 : decode cX4_one 142 = .ok (.invokevirtual 88, 3) := by decide +kernel
theorem dX4_one_145 : decode cX4_one 145 = .ok (.ireturn, 1) := by decide +kernel
theorem dX4_isOf_0 : decode cX4_isOf 0 = .ok (.iload_n 0, 1) := by decide +kernel
theorem dX4_isOf_1 : decode cX4_isOf 1 = .ok (.iload_n 1, 1) := by decide +kernel
theorem dX4_isOf_2 : decode cX4_isOf 2 = .ok (.if_icmp .eq 23, 3) := by decide +kernel
theorem dX4_isOf_5 : decode cX4_isOf 5 = .ok (.iload_n 0, 1) := by decide +kernel
theorem dX4_isOf_6 : decode cX4_isOf 6 = .ok (.iconst 4, 1) := by decide +kernel
theorem dX4_isOf_7 : decode cX4_isOf 7 = .ok (.if_icmp .ne 8, 3) := by decide +kernel
theorem dX4_isOf_10 : decode cX4_isOf 10 = .ok (.iload_n 1, 1) := by decide +kernel
theorem dX4_isOf_11 : decode cX4_isOf 11 = .ok (.iconst 1, 1) := by decide +kernel
theorem dX4_isOf_12 : decode cX4_isOf 12 = .ok (.if_icmp .eq 13, 3) := by decide +kernel
theorem dX4_isOf_15 : decode cX4_isOf 15 = .ok (.iload_n 0, 1) := by decide +kernel
theorem dX4_isOf_16 : decode cX4_isOf 16 = .ok (.iconst 5, 1) := by decide +kernel
theorem dX4_isOf_17 : decode cX4_isOf 17 = .ok (.if_icmp .ne 12, 3) := by decide +kernel
theorem dX4_isOf_20 : decode cX4_isOf 20 = .ok (.iload_n 1, 1) := by decide +kernel
theorem dX4_isOf_21 : decode cX4_isOf 21 = .ok (.iconst 3, 1) := by decide +kernel
theorem dX4_isOf_22 : decode cX4_isOf 22 = .ok (.if_icmp .ne 7, 3) := by decide +kernel
theorem dX4_isOf_25 : decode cX4_isOf 25 = .ok (.iconst 1, 1) := by decide +kernel
theorem dX4_isOf_26 : decode cX4_isOf 26 = .ok (.goto 4, 3) := by decide +kernel
theorem dX4_isOf_29 : decode cX4_isOf 29 = .ok (.iconst 0, 1) := by decide +kernel
theorem dX4_isOf_30 : decode cX4_isOf 30 = .ok (.ireturn, 1) := by decide +kernel
theorem dX4_mark_0 : decode cX4_mark 0 = .ok (.aload_n 0, 1) := by decide +kernel
theorem dX4_mark_1 : decode cX4_mark 1 = .ok (.iload_n 1, 1) := by decide +kernel
theorem dX4_mark_2 : decode cX4_mark 2 = .ok (.invokevirtual 157, 3) := by decide +kernel
theorem dX4_mark_5 : decode cX4_mark 5 = .ok (.ifCond .eq 15, 3) := by decide +kernel
theorem dX4_mark_8 : decode cX4_mark 8 = .ok (.iload_n 2, 1) := by decide +kernel
theorem dX4_mark_9 : decode cX4_mark 9 = .ok (.i2l, 1) := by decide +kernel
theorem dX4_mark_10 : decode cX4_mark 10 = .ok (.lconst 1, 1) := by decide +kernel
theorem dX4_mark_11 : decode cX4_mark 11 = .ok (.ldc2_w 72, 3) := by decide +kernel
theorem dX4_mark_14 : decode cX4_mark 14 = .ok (.invokestatic 74, 3) := by decide +kernel
theorem dX4_mark_17 : decode cX4_mark 17 = .ok (.ifCond .ne 5, 3) := by decide +kernel
theorem dX4_mark_20 : decode cX4_mark 20 = .ok (.iconst (-1), 1) := by decide +kernel
theorem dX4_mark_21 : decode cX4_mark 21 = .ok (.ireturn, 1) := by decide +kernel
theorem dX4_mark_22 : decode cX4_mark 22 = .ok (.aload_n 0, 1) := by decide +kernel
theorem dX4_mark_23 : decode cX4_mark 23 = .ok (.getfield 29, 3) := by decide +kernel
theorem dX4_mark_26 : decode cX4_mark 26 = .ok (.iload_n 1, 1) := by decide +kernel
theorem dX4_mark_27 : decode cX4_mark 27 = .ok (.iaload, 1) := by decide +kernel
theorem dX4_mark_28 : decode cX4_mark 28 = .ok (.iload_n 2, 1) := by decide +kernel
theorem dX4_mark_29 : decode cX4_mark 29 = .ok (.invokestatic 168, 3) := by decide +kernel
theorem dX4_mark_32 : decode cX4_mark 32 = .ok (.ifCond .ne 9, 3) := by decide +kernel
theorem dX4_mark_35 : decode cX4_mark 35 = .ok (.aload_n 0, 1) := by decide +kernel
theorem dX4_mark_36 : decode cX4_mark 36 = .ok (.iconst 3, 1) := by decide +kernel
theorem dX4_mark_37 : decode cX4_mark 37 = .ok (.invokevirtual 84, 3) := by decide +kernel
theorem dX4_mark_40 : decode cX4_mark 40 = .ok (.ireturn, 1) := by decide +kernel
theorem dX4_mark_41 : decode cX4_mark 41 = .ok (.aload_n 0, 1) := by decide +kernel
theorem dX4_mark_42 : decode cX4_mark 42 = .ok (.aload_n 0, 1) := by decide +kernel
theorem dX4_mark_43 : decode cX4_mark 43 = .ok (.getfield 29, 3) := by decide +kernel
theorem dX4_mark_46 : decode cX4_mark 46 = .ok (.iload_n 1, 1) := by decide +kernel
theorem dX4_mark_47 : decode cX4_mark 47 = .ok (.iaload, 1) := by decide +kernel
theorem dX4_mark_48 : decode cX4_mark 48 = .ok (.iload_n 1, 1) := by decide +kernel
theorem dX4_mark_49 : decode cX4_mark 49 = .ok (.invokevirtual 162, 3) := by decide +kernel
theorem dX4_mark_52 : decode cX4_mark 52 = .ok (.istore_n 3, 1) := by decide +kernel
theorem dX4_mark_53 : decode cX4_mark 53 = .ok (.aload_n 0, 1) := by decide +kernel
theorem dX4_mark_54 : decode cX4_mark 54 = .ok (.iload_n 2, 1) := by decide +kernel
theorem dX4_mark_55 : decode cX4_mark 55 = .ok (.iconst 4, 1) := by decide +kernel
theorem dX4_mark_56 : decode cX4_mark 56 = .ok (.if_icmp .ne 7, 3) := by decide +kernel
theorem dX4_mark_59 : decode cX4_mark 59 = .ok (.iconst 1, 1) := by decide +kernel
theorem dX4_mark_60 : decode cX4_mark 60 = .ok (.goto 13, 3) := by decide +kernel
theorem dX4_mark_63 : decode cX4_mark 63 = .ok (.iload_n 2, 1) := by decide +kernel
theorem dX4_mark_64 : decode cX4_mark 64 = .ok (.iconst 5, 1) := by decide +kernel
theorem dX4_mark_65 : decode cX4_mark 65 = .ok (.if_icmp .ne 7, 3) := by decide +kernel
theorem dX4_mark_68 : decode cX4_mark 68 = .ok (.iconst 3, 1) := by decide +kernel
theorem dX4_mark_69 : decode cX4_mark 69 = .ok (.goto 4, 3) := by decide +kernel
theorem dX4_mark_72 : decode cX4_mark 72 = .ok (.iconst 0, 1) := by decide +kernel
theorem dX4_mark_73 : decode cX4_mark 73 = .ok (.iload_n 1, 1) := by decide +kernel
theorem dX4_mark_74 : decode cX4_mark 74 = .ok (.invokevirtual 162, 3) := by decide +kernel
theorem dX4_mark_77 : decode cX4_mark 77 = .ok (.istore 4, 2) := by decide +kernel
theorem dX4_mark_79 : decode cX4_mark 79 = .ok (.iload_n 2, 1) := by decide +kernel
theorem dX4_mark_80 : decode cX4_mark 80 = .ok (.iconst 3, 1) := by decide +kernel
theorem dX4_mark_81 : decode cX4_mark 81 = .ok (.if_icmp .eq 8, 3) := by decide +kernel
theorem dX4_mark_84 : decode cX4_mark 84 = .ok (.iload_n 2, 1) := by decide +kernel
theorem dX4_mark_85 : decode cX4_mark 85 = .ok (.iconst 5, 1) := by decide +kernel
theorem dX4_mark_86 : decode cX4_mark 86 = .ok (.if_icmp .ne 10, 3) := by decide +kernel
theorem dX4_mark_89 : decode cX4_mark 89 = .ok (.iload 4, 2) := by decide +kernel
theorem dX4_mark_91 : decode cX4_mark 91 = .ok (.iload_n 3, 1) := by decide +kernel
theorem dX4_mark_92 : decode cX4_mark 92 = .ok (.isub, 1) := by decide +kernel
theorem dX4_mark_93 : decode cX4_mark 93 = .ok (.goto 7, 3) := by decide +kernel
theorem dX4_mark_96 : decode cX4_mark 96 = .ok (.iload_n 3, 1) := by decide +kernel
theorem dX4_mark_97 : decode cX4_mark 97 = .ok (.iload 4, 2) := by decide +kernel
theorem dX4_mark_99 : decode cX4_mark 99 = .ok (.isub, 1) := by decide +kernel
theorem dX4_mark_100 : decode cX4_mark 100 = .ok (.ireturn, 1) := by decide +kernel
theorem dX4_regard_0 : decode cX4_regard 0 = .ok (.aload_n 0, 1) := by decide +kernel
theorem dX4_regard_1 : decode cX4_regard 1 = .ok (.iload_n 1, 1) := by decide +kernel
theorem dX4_regard_2 : decode cX4_regard 2 = .ok (.invokevirtual 157, 3) := by decide +kernel
theorem dX4_regard_5 : decode cX4_regard 5 = .ok (.ifCond .eq 47, 3) := by decide +kernel
theorem dX4_regard_8 : decode cX4_regard 8 = .ok (.iload_n 2, 1) := by decide +kernel
theorem dX4_regard_9 : decode cX4_regard 9 = .ok (.i2l, 1) := by decide +kernel
theorem dX4_regard_10 : decode cX4_regard 10 = .ok (.lconst 0, 1) := by decide +kernel
theorem dX4_regard_11 : decode cX4_regard 11 = .ok (.ldc2_w 78, 3) := by decide +kernel
theorem dX4_regard_14 : decode cX4_regard 14 = .ok (.invokestatic 74, 3) := by decide +kernel
theorem dX4_regard_17 : decode cX4_regard 17 = .ok (.ifCond .eq 35, 3) := by decide +kernel
theorem dX4_regard_20 : decode cX4_regard 20 = .ok (.iload_n 3, 1) := by decide +kernel
theorem dX4_regard_21 : decode cX4_regard 21 = .ok (.i2l, 1) := by decide +kernel
theorem dX4_regard_22 : decode cX4_regard 22 = .ok (.lconst 0, 1) := by decide +kernel
theorem dX4_regard_23 : decode cX4_regard 23 = .ok (.ldc2_w 172, 3) := by decide +kernel
theorem dX4_regard_26 : decode cX4_regard 26 = .ok (.invokestatic 74, 3) := by decide +kernel
theorem dX4_regard_29 : decode cX4_regard 29 = .ok (.ifCond .eq 23, 3) := by decide +kernel
theorem dX4_regard_32 : decode cX4_regard 32 = .ok (.aload_n 0, 1) := by decide +kernel
theorem dX4_regard_33 : decode cX4_regard 33 = .ok (.getfield 29, 3) := by decide +kernel
theorem dX4_regard_36 : decode cX4_regard 36 = .ok (.iload_n 1, 1) := by decide +kernel
theorem dX4_regard_37 : decode cX4_regard 37 = .ok (.iaload, 1) := by decide +kernel
theorem dX4_regard_38 : decode cX4_regard 38 = .ok (.aload_n 0, 1) := by decide +kernel
theorem dX4_regard_39 : decode cX4_regard 39 = .ok (.getfield 32, 3) := by decide +kernel
theorem dX4_regard_42 : decode cX4_regard 42 = .ok (.iload_n 1, 1) := by decide +kernel
theorem dX4_regard_43 : decode cX4_regard 43 = .ok (.iaload, 1) := by decide +kernel
theorem dX4_regard_44 : decode cX4_regard 44 = .ok (.iload_n 2, 1) := by decide +kernel
theorem dX4_regard_45 : decode cX4_regard 45 = .ok (.iload_n 3, 1) := by decide +kernel
theorem dX4_regard_46 : decode cX4_regard 46 = .ok (.invokestatic 146, 3) := by decide +kernel
theorem dX4_regard_49 : decode cX4_regard 49 = .ok (.goto 4, 3) := by decide +kernel
theorem dX4_regard_52 : decode cX4_regard 52 = .ok (.iconst (-1), 1) := by decide +kernel
theorem dX4_regard_53 : decode cX4_regard 53 = .ok (.ireturn, 1) := by decide +kernel
theorem dX4_refuses_0 : decode cX4_refuses 0 = .ok (.aload_n 0, 1) := by decide +kernel
theorem dX4_refuses_1 : decode cX4_refuses 1 = .ok (.getfield 136, 3) := by decide +kernel
theorem dX4_refuses_4 : decode cX4_refuses 4 = .ok (.ifCond .ne 8, 3) := by decide +kernel
theorem dX4_refuses_7 : decode cX4_refuses 7 = .ok (.bipush (-4), 2) := by decide +kernel
theorem dX4_refuses_9 : decode cX4_refuses 9 = .ok (.goto 20, 3) := by decide +kernel
theorem dX4_refuses_12 : decode cX4_refuses 12 = .ok (.aload_n 0, 1) := by decide +kernel
theorem dX4_refuses_13 : decode cX4_refuses 13 = .ok (.getfield 94, 3) := by decide +kernel
theorem dX4_refuses_16 : decode cX4_refuses 16 = .ok (.iload_n 1, 1) := by decide +kernel
theorem dX4_refuses_17 : decode cX4_refuses 17 = .ok (.iadd, 1) := by decide +kernel
theorem dX4_refuses_18 : decode cX4_refuses 18 = .ok (.bipush 40, 2) := by decide +kernel
theorem dX4_refuses_20 : decode cX4_refuses 20 = .ok (.if_icmp .le 8, 3) := by decide +kernel
theorem dX4_refuses_23 : decode cX4_refuses 23 = .ok (.bipush (-2), 2) := by decide +kernel
theorem dX4_refuses_25 : decode cX4_refuses 25 = .ok (.goto 4, 3) := by decide +kernel
theorem dX4_refuses_28 : decode cX4_refuses 28 = .ok (.iconst 0, 1) := by decide +kernel
theorem dX4_refuses_29 : decode cX4_refuses 29 = .ok (.ireturn, 1) := by decide +kernel
theorem dX4_remember_0 : decode cX4_remember 0 = .ok (.aload_n 0, 1) := by decide +kernel
theorem dX4_remember_1 : decode cX4_remember 1 = .ok (.getfield 38, 3) := by decide +kernel
theorem dX4_remember_4 : decode cX4_remember 4 = .ok (.iconst 0, 1) := by decide +kernel
theorem dX4_remember_5 : decode cX4_remember 5 = .ok (.aload_n 0, 1) := by decide +kernel
theorem dX4_remember_6 : decode cX4_remember 6 = .ok (.getfield 47, 3) := by decide +kernel
theorem dX4_remember_9 : decode cX4_remember 9 = .ok (.bipush 13, 2) := by decide +kernel
theorem dX4_remember_11 : decode cX4_remember 11 = .ok (.aload_n 0, 1) := by decide +kernel
theorem dX4_remember_12 : decode cX4_remember 12 = .ok (.getfield 94, 3) := by decide +kernel
theorem dX4_remember_15 : decode cX4_remember 15 = .ok (.imul, 1) := by decide +kernel
theorem dX4_remember_16 : decode cX4_remember 16 = .ok (.bipush 13, 2) := by decide +kernel
theorem dX4_remember_18 : decode cX4_remember 18 = .ok (.invokestatic 174, 3) := by decide +kernel
theorem dX4_remember_21 : decode cX4_remember 21 = .ok (.aload_n 0, 1) := by decide +kernel
theorem dX4_remember_22 : decode cX4_remember 22 = .ok (.dup, 1) := by decide +kernel
theorem dX4_remember_23 : decode cX4_remember 23 = .ok (.getfield 94, 3) := by decide +kernel
theorem dX4_remember_26 : decode cX4_remember 26 = .ok (.iconst 1, 1) := by decide +kernel
theorem dX4_remember_27 : decode cX4_remember 27 = .ok (.iadd, 1) := by decide +kernel
theorem dX4_remember_28 : decode cX4_remember 28 = .ok (.putfield 94, 3) := by decide +kernel
theorem dX4_remember_31 : decode cX4_remember 31 = .ok (.return_, 1) := by decide +kernel
theorem dX4_quarter_0 : decode cX4_quarter 0 = .ok (.aload_n 0, 1) := by decide +kernel
theorem dX4_quarter_1 : decode cX4_quarter 1 = .ok (.getfield 136, 3) := by decide +kernel
theorem dX4_quarter_4 : decode cX4_quarter 4 = .ok (.ifCond .eq 14, 3) := by decide +kernel
theorem dX4_quarter_7 : decode cX4_quarter 7 = .ok (.aload_n 0, 1) := by decide +kernel
theorem dX4_quarter_8 : decode cX4_quarter 8 = .ok (.getfield 38, 3) := by decide +kernel
theorem dX4_quarter_11 : decode cX4_quarter 11 = .ok (.iconst 0, 1) := by decide +kernel
theorem dX4_quarter_12 : decode cX4_quarter 12 = .ok (.iaload, 1) := by decide +kernel
theorem dX4_quarter_13 : decode cX4_quarter 13 = .ok (.bipush 99, 2) := by decide +kernel
theorem dX4_quarter_15 : decode cX4_quarter 15 = .ok (.if_icmp .ne 6, 3) := by decide +kernel
theorem dX4_quarter_18 : decode cX4_quarter 18 = .ok (.bipush (-4), 2) := by decide +kernel
theorem dX4_quarter_20 : decode cX4_quarter 20 = .ok (.ireturn, 1) := by decide +kernel
theorem dX4_quarter_21 : decode cX4_quarter 21 = .ok (.aload_n 0, 1) := by decide +kernel
theorem dX4_quarter_22 : decode cX4_quarter 22 = .ok (.getfield 94, 3) := by decide +kernel
theorem dX4_quarter_25 : decode cX4_quarter 25 = .ok (.bipush 40, 2) := by decide +kernel
theorem dX4_quarter_27 : decode cX4_quarter 27 = .ok (.if_icmp .ne 6, 3) := by decide +kernel
theorem dX4_quarter_30 : decode cX4_quarter 30 = .ok (.bipush (-2), 2) := by decide +kernel
theorem dX4_quarter_32 : decode cX4_quarter 32 = .ok (.ireturn, 1) := by decide +kernel
theorem dX4_quarter_33 : decode cX4_quarter 33 = .ok (.aload_n 0, 1) := by decide +kernel
theorem dX4_quarter_34 : decode cX4_quarter 34 = .ok (.invokevirtual 178, 3) := by decide +kernel
theorem dX4_quarter_37 : decode cX4_quarter 37 = .ok (.aload_n 0, 1) := by decide +kernel
theorem dX4_quarter_38 : decode cX4_quarter 38 = .ok (.aload_n 0, 1) := by decide +kernel
theorem dX4_quarter_39 : decode cX4_quarter 39 = .ok (.getfield 38, 3) := by decide +kernel
theorem dX4_quarter_42 : decode cX4_quarter 42 = .ok (.invokevirtual 181, 3) := by decide +kernel
theorem dX4_quarter_45 : decode cX4_quarter 45 = .ok (.ireturn, 1) := by decide +kernel
theorem dX4_soot_0 : decode cX4_soot 0 = .ok (.aload_n 0, 1) := by decide +kernel
theorem dX4_soot_1 : decode cX4_soot 1 = .ok (.iload_n 1, 1) := by decide +kernel
theorem dX4_soot_2 : decode cX4_soot 2 = .ok (.invokevirtual 157, 3) := by decide +kernel
theorem dX4_soot_5 : decode cX4_soot 5 = .ok (.ifCond .ne 5, 3) := by decide +kernel
theorem dX4_soot_8 : decode cX4_soot 8 = .ok (.iconst (-1), 1) := by decide +kernel
theorem dX4_soot_9 : decode cX4_soot 9 = .ok (.ireturn, 1) := by decide +kernel
theorem dX4_soot_10 : decode cX4_soot 10 = .ok (.aload_n 0, 1) := by decide +kernel
theorem dX4_soot_11 : decode cX4_soot 11 = .ok (.getfield 38, 3) := by decide +kernel
theorem dX4_soot_14 : decode cX4_soot 14 = .ok (.bipush 7, 2) := by decide +kernel
theorem dX4_soot_16 : decode cX4_soot 16 = .ok (.iload_n 1, 1) := by decide +kernel
theorem dX4_soot_17 : decode cX4_soot 17 = .ok (.iadd, 1) := by decide +kernel
theorem dX4_soot_18 : decode cX4_soot 18 = .ok (.iaload, 1) := by decide +kernel
theorem dX4_soot_19 : decode cX4_soot 19 = .ok (.iconst 3, 1) := by decide +kernel
theorem dX4_soot_20 : decode cX4_soot 20 = .ok (.if_icmp .ne 6, 3) := by decide +kernel
theorem dX4_soot_23 : decode cX4_soot 23 = .ok (.bipush (-4), 2) := by decide +kernel
theorem dX4_soot_25 : decode cX4_soot 25 = .ok (.ireturn, 1) := by decide +kernel
theorem dX4_soot_26 : decode cX4_soot 26 = .ok (.aload_n 0, 1) := by decide +kernel
theorem dX4_soot_27 : decode cX4_soot 27 = .ok (.getfield 94, 3) := by decide +kernel
theorem dX4_soot_30 : decode cX4_soot 30 = .ok (.bipush 40, 2) := by decide +kernel
theorem dX4_soot_32 : decode cX4_soot 32 = .ok (.if_icmp .ne 6, 3) := by decide +kernel
theorem dX4_soot_35 : decode cX4_soot 35 = .ok (.bipush (-2), 2) := by decide +kernel
theorem dX4_soot_37 : decode cX4_soot 37 = .ok (.ireturn, 1) := by decide +kernel
theorem dX4_soot_38 : decode cX4_soot 38 = .ok (.aload_n 0, 1) := by decide +kernel
theorem dX4_soot_39 : decode cX4_soot 39 = .ok (.invokevirtual 178, 3) := by decide +kernel
theorem dX4_soot_42 : decode cX4_soot 42 = .ok (.aload_n 0, 1) := by decide +kernel
theorem dX4_soot_43 : decode cX4_soot 43 = .ok (.getfield 38, 3) := by decide +kernel
theorem dX4_soot_46 : decode cX4_soot 46 = .ok (.bipush 7, 2) := by decide +kernel
theorem dX4_soot_48 : decode cX4_soot 48 = .ok (.iload_n 1, 1) := by decide +kernel
theorem dX4_soot_49 : decode cX4_soot 49 = .ok (.iadd, 1) := by decide +kernel
theorem dX4_soot_50 : decode cX4_soot 50 = .ok (.dup2, 1) := by decide +kernel
theorem dX4_soot_51 : decode cX4_soot 51 = .ok (.iaload, 1) := by decide +kernel
theorem dX4_soot_52 : decode cX4_soot 52 = .ok (.iconst 1, 1) := by decide +kernel
theorem dX4_soot_53 : decode cX4_soot 53 = .ok (.iadd, 1) := by decide +kernel
theorem dX4_soot_54 : decode cX4_soot 54 = .ok (.iastore, 1) := by decide +kernel
theorem dX4_soot_55 : decode cX4_soot 55 = .ok (.aload_n 0, 1) := by decide +kernel
theorem dX4_soot_56 : decode cX4_soot 56 = .ok (.getfield 38, 3) := by decide +kernel
theorem dX4_soot_59 : decode cX4_soot 59 = .ok (.bipush 7, 2) := by decide +kernel
theorem dX4_soot_61 : decode cX4_soot 61 = .ok (.iload_n 1, 1) := by decide +kernel
theorem dX4_soot_62 : decode cX4_soot 62 = .ok (.iadd, 1) := by decide +kernel
theorem dX4_soot_63 : decode cX4_soot 63 = .ok (.iaload, 1) := by decide +kernel
theorem dX4_soot_64 : decode cX4_soot 64 = .ok (.ireturn, 1) := by decide +kernel
theorem dX4_wash_0 : decode cX4_wash 0 = .ok (.aload_n 0, 1) := by decide +kernel
theorem dX4_wash_1 : decode cX4_wash 1 = .ok (.iload_n 1, 1) := by decide +kernel
theorem dX4_wash_2 : decode cX4_wash 2 = .ok (.invokevirtual 157, 3) := by decide +kernel
theorem dX4_wash_5 : decode cX4_wash 5 = .ok (.ifCond .ne 5, 3) := by decide +kernel
theorem dX4_wash_8 : decode cX4_wash 8 = .ok (.iconst (-1), 1) := by decide +kernel
theorem dX4_wash_9 : decode cX4_wash 9 = .ok (.ireturn, 1) := by decide +kernel
theorem dX4_wash_10 : decode cX4_wash 10 = .ok (.aload_n 0, 1) := by decide +kernel
theorem dX4_wash_11 : decode cX4_wash 11 = .ok (.getfield 38, 3) := by decide +kernel
theorem dX4_wash_14 : decode cX4_wash 14 = .ok (.bipush 7, 2) := by decide +kernel
theorem dX4_wash_16 : decode cX4_wash 16 = .ok (.iload_n 1, 1) := by decide +kernel
theorem dX4_wash_17 : decode cX4_wash 17 = .ok (.iadd, 1) := by decide +kernel
theorem dX4_wash_18 : decode cX4_wash 18 = .ok (.iaload, 1) := by decide +kernel
theorem dX4_wash_19 : decode cX4_wash 19 = .ok (.ifCond .ne 6, 3) := by decide +kernel
theorem dX4_wash_22 : decode cX4_wash 22 = .ok (.bipush (-4), 2) := by decide +kernel
theorem dX4_wash_24 : decode cX4_wash 24 = .ok (.ireturn, 1) := by decide +kernel
theorem dX4_wash_25 : decode cX4_wash 25 = .ok (.aload_n 0, 1) := by decide +kernel
theorem dX4_wash_26 : decode cX4_wash 26 = .ok (.getfield 94, 3) := by decide +kernel
theorem dX4_wash_29 : decode cX4_wash 29 = .ok (.bipush 40, 2) := by decide +kernel
theorem dX4_wash_31 : decode cX4_wash 31 = .ok (.if_icmp .ne 6, 3) := by decide +kernel
theorem dX4_wash_34 : decode cX4_wash 34 = .ok (.bipush (-2), 2) := by decide +kernel
theorem dX4_wash_36 : decode cX4_wash 36 = .ok (.ireturn, 1) := by decide +kernel
theorem dX4_wash_37 : decode cX4_wash 37 = .ok (.aload_n 0, 1) := by decide +kernel
theorem dX4_wash_38 : decode cX4_wash 38 = .ok (.invokevirtual 178, 3) := by decide +kernel
theorem dX4_wash_41 : decode cX4_wash 41 = .ok (.aload_n 0, 1) := by decide +kernel
theorem dX4_wash_42 : decode cX4_wash 42 = .ok (.getfield 38, 3) := by decide +kernel
theorem dX4_wash_45 : decode cX4_wash 45 = .ok (.bipush 7, 2) := by decide +kernel
theorem dX4_wash_47 : decode cX4_wash 47 = .ok (.iload_n 1, 1) := by decide +kernel
theorem dX4_wash_48 : decode cX4_wash 48 = .ok (.iadd, 1) := by decide +kernel
theorem dX4_wash_49 : decode cX4_wash 49 = .ok (.iaload, 1) := by decide +kernel
theorem dX4_wash_50 : decode cX4_wash 50 = .ok (.istore_n 2, 1) := by decide +kernel
theorem dX4_wash_51 : decode cX4_wash 51 = .ok (.aload_n 0, 1) := by decide +kernel
theorem dX4_wash_52 : decode cX4_wash 52 = .ok (.getfield 38, 3) := by decide +kernel
theorem dX4_wash_55 : decode cX4_wash 55 = .ok (.bipush 7, 2) := by decide +kernel
theorem dX4_wash_57 : decode cX4_wash 57 = .ok (.iload_n 1, 1) := by decide +kernel
theorem dX4_wash_58 : decode cX4_wash 58 = .ok (.iadd, 1) := by decide +kernel
theorem dX4_wash_59 : decode cX4_wash 59 = .ok (.iconst 0, 1) := by decide +kernel
theorem dX4_wash_60 : decode cX4_wash 60 = .ok (.iastore, 1) := by decide +kernel
theorem dX4_wash_61 : decode cX4_wash 61 = .ok (.iload_n 2, 1) := by decide +kernel
theorem dX4_wash_62 : decode cX4_wash 62 = .ok (.ireturn, 1) := by decide +kernel
theorem dX4_gift_0 : decode cX4_gift 0 = .ok (.aload_n 0, 1) := by decide +kernel
theorem dX4_gift_1 : decode cX4_gift 1 = .ok (.iload_n 1, 1) := by decide +kernel
theorem dX4_gift_2 : decode cX4_gift 2 = .ok (.invokevirtual 157, 3) := by decide +kernel
theorem dX4_gift_5 : decode cX4_gift 5 = .ok (.ifCond .eq 28, 3) := by decide +kernel
theorem dX4_gift_8 : decode cX4_gift 8 = .ok (.aload_n 0, 1) := by decide +kernel
theorem dX4_gift_9 : decode cX4_gift 9 = .ok (.iload_n 2, 1) := by decide +kernel
theorem dX4_gift_10 : decode cX4_gift 10 = .ok (.invokevirtual 157, 3) := by decide +kernel
theorem dX4_gift_13 : decode cX4_gift 13 = .ok (.ifCond .eq 20, 3) := by decide +kernel
theorem dX4_gift_16 : decode cX4_gift 16 = .ok (.iload_n 1, 1) := by decide +kernel
theorem dX4_gift_17 : decode cX4_gift 17 = .ok (.iload_n 2, 1) := by decide +kernel
theorem dX4_gift_18 : decode cX4_gift 18 = .ok (.if_icmp .eq 15, 3) := by decide +kernel
theorem dX4_gift_21 : decode cX4_gift 21 = .ok (.iload_n 3, 1) := by decide +kernel
theorem dX4_gift_22 : decode cX4_gift 22 = .ok (.i2l, 1) := by decide +kernel
theorem dX4_gift_23 : decode cX4_gift 23 = .ok (.lconst 1, 1) := by decide +kernel
theorem dX4_gift_24 : decode cX4_gift 24 = .ok (.ldc2_w 172, 3) := by decide +kernel
theorem dX4_gift_27 : decode cX4_gift 27 = .ok (.invokestatic 74, 3) := by decide +kernel
theorem dX4_gift_30 : decode cX4_gift 30 = .ok (.ifCond .ne 5, 3) := by decide +kernel
theorem dX4_gift_33 : decode cX4_gift 33 = .ok (.iconst (-1), 1) := by decide +kernel
theorem dX4_gift_34 : decode cX4_gift 34 = .ok (.ireturn, 1) := by decide +kernel
theorem dX4_gift_35 : decode cX4_gift 35 = .ok (.aload_n 0, 1) := by decide +kernel
theorem dX4_gift_36 : decode cX4_gift 36 = .ok (.getfield 38, 3) := by decide +kernel
theorem dX4_gift_39 : decode cX4_gift 39 = .ok (.iconst 1, 1) := by decide +kernel
theorem dX4_gift_40 : decode cX4_gift 40 = .ok (.iload_n 1, 1) := by decide +kernel
theorem dX4_gift_41 : decode cX4_gift 41 = .ok (.iadd, 1) := by decide +kernel
theorem dX4_gift_42 : decode cX4_gift 42 = .ok (.iaload, 1) := by decide +kernel
theorem dX4_gift_43 : decode cX4_gift 43 = .ok (.iload_n 3, 1) := by decide +kernel
theorem dX4_gift_44 : decode cX4_gift 44 = .ok (.if_icmp .ge 6, 3) := by decide +kernel
theorem dX4_gift_47 : decode cX4_gift 47 = .ok (.bipush (-4), 2) := by decide +kernel
theorem dX4_gift_49 : decode cX4_gift 49 = .ok (.ireturn, 1) := by decide +kernel
theorem dX4_gift_50 : decode cX4_gift 50 = .ok (.aload_n 0, 1) := by decide +kernel
theorem dX4_gift_51 : decode cX4_gift 51 = .ok (.getfield 94, 3) := by decide +kernel
theorem dX4_gift_54 : decode cX4_gift 54 = .ok (.bipush 40, 2) := by decide +kernel
theorem dX4_gift_56 : decode cX4_gift 56 = .ok (.if_icmp .ne 6, 3) := by decide +kernel
theorem dX4_gift_59 : decode cX4_gift 59 = .ok (.bipush (-2), 2) := by decide +kernel
theorem dX4_gift_61 : decode cX4_gift 61 = .ok (.ireturn, 1) := by decide +kernel
theorem dX4_gift_62 : decode cX4_gift 62 = .ok (.aload_n 0, 1) := by decide +kernel
theorem dX4_gift_63 : decode cX4_gift 63 = .ok (.invokevirtual 178, 3) := by decide +kernel
theorem dX4_gift_66 : decode cX4_gift 66 = .ok (.aload_n 0, 1) := by decide +kernel
theorem dX4_gift_67 : decode cX4_gift 67 = .ok (.getfield 38, 3) := by decide +kernel
theorem dX4_gift_70 : decode cX4_gift 70 = .ok (.iconst 1, 1) := by decide +kernel
theorem dX4_gift_71 : decode cX4_gift 71 = .ok (.iload_n 1, 1) := by decide +kernel
theorem dX4_gift_72 : decode cX4_gift 72 = .ok (.iadd, 1) := by decide +kernel
theorem dX4_gift_73 : decode cX4_gift 73 = .ok (.dup2, 1) := by decide +kernel
theorem dX4_gift_74 : decode cX4_gift 74 = .ok (.iaload, 1) := by decide +kernel
theorem dX4_gift_75 : decode cX4_gift 75 = .ok (.iload_n 3, 1) := by decide +kernel
theorem dX4_gift_76 : decode cX4_gift 76 = .ok (.isub, 1) := by decide +kernel
theorem dX4_gift_77 : decode cX4_gift 77 = .ok (.iastore, 1) := by decide +kernel
theorem dX4_gift_78 : decode cX4_gift 78 = .ok (.aload_n 0, 1) := by decide +kernel
theorem dX4_gift_79 : decode cX4_gift 79 = .ok (.getfield 38, 3) := by decide +kernel
theorem dX4_gift_82 : decode cX4_gift 82 = .ok (.iconst 1, 1) := by decide +kernel
theorem dX4_gift_83 : decode cX4_gift 83 = .ok (.iload_n 2, 1) := by decide +kernel
theorem dX4_gift_84 : decode cX4_gift 84 = .ok (.iadd, 1) := by decide +kernel
theorem dX4_gift_85 : decode cX4_gift 85 = .ok (.bipush 99, 2) := by decide +kernel
theorem dX4_gift_87 : decode cX4_gift 87 = .ok (.aload_n 0, 1) := by decide +kernel
theorem dX4_gift_88 : decode cX4_gift 88 = .ok (.getfield 38, 3) := by decide +kernel
theorem dX4_gift_91 : decode cX4_gift 91 = .ok (.iconst 1, 1) := by decide +kernel
theorem dX4_gift_92 : decode cX4_gift 92 = .ok (.iload_n 2, 1) := by decide +kernel
theorem dX4_gift_93 : decode cX4_gift 93 = .ok (.iadd, 1) := by decide +kernel
theorem dX4_gift_94 : decode cX4_gift 94 = .ok (.iaload, 1) := by decide +kernel
theorem dX4_gift_95 : decode cX4_gift 95 = .ok (.iload_n 3, 1) := by decide +kernel
theorem dX4_gift_96 : decode cX4_gift 96 = .ok (.iadd, 1) := by decide +kernel
theorem dX4_gift_97 : decode cX4_gift 97 = .ok (.invokestatic 143, 3) := by decide +kernel
theorem dX4_gift_100 : decode cX4_gift 100 = .ok (.iastore, 1) := by decide +kernel
theorem dX4_gift_101 : decode cX4_gift 101 = .ok (.aload_n 0, 1) := by decide +kernel
theorem dX4_gift_102 : decode cX4_gift 102 = .ok (.getfield 38, 3) := by decide +kernel
theorem dX4_gift_105 : decode cX4_gift 105 = .ok (.iconst 1, 1) := by decide +kernel
theorem dX4_gift_106 : decode cX4_gift 106 = .ok (.iload_n 2, 1) := by decide +kernel
theorem dX4_gift_107 : decode cX4_gift 107 = .ok (.iadd, 1) := by decide +kernel
theorem dX4_gift_108 : decode cX4_gift 108 = .ok (.iaload, 1) := by decide +kernel
theorem dX4_gift_109 : decode cX4_gift 109 = .ok (.ireturn, 1) := by decide +kernel
theorem dX4_undo_0 : decode cX4_undo 0 = .ok (.iload_n 1, 1) := by decide +kernel
theorem dX4_undo_1 : decode cX4_undo 1 = .ok (.i2l, 1) := by decide +kernel
theorem dX4_undo_2 : decode cX4_undo 2 = .ok (.lconst 0, 1) := by decide +kernel
theorem dX4_undo_3 : decode cX4_undo 3 = .ok (.aload_n 0, 1) := by decide +kernel
theorem dX4_undo_4 : decode cX4_undo 4 = .ok (.getfield 94, 3) := by decide +kernel
theorem dX4_undo_7 : decode cX4_undo 7 = .ok (.i2l, 1) := by decide +kernel
theorem dX4_undo_8 : decode cX4_undo 8 = .ok (.invokestatic 74, 3) := by decide +kernel
theorem dX4_undo_11 : decode cX4_undo 11 = .ok (.ifCond .ne 5, 3) := by decide +kernel
theorem dX4_undo_14 : decode cX4_undo 14 = .ok (.iconst (-1), 1) := by decide +kernel
theorem dX4_undo_15 : decode cX4_undo 15 = .ok (.ireturn, 1) := by decide +kernel
theorem dX4_undo_16 : decode cX4_undo 16 = .ok (.aload_n 0, 1) := by decide +kernel
theorem dX4_undo_17 : decode cX4_undo 17 = .ok (.getfield 94, 3) := by decide +kernel
theorem dX4_undo_20 : decode cX4_undo 20 = .ok (.iload_n 1, 1) := by decide +kernel
theorem dX4_undo_21 : decode cX4_undo 21 = .ok (.isub, 1) := by decide +kernel
theorem dX4_undo_22 : decode cX4_undo 22 = .ok (.istore_n 2, 1) := by decide +kernel
theorem dX4_undo_23 : decode cX4_undo 23 = .ok (.iload_n 2, 1) := by decide +kernel
theorem dX4_undo_24 : decode cX4_undo 24 = .ok (.ifCond .le 21, 3) := by decide +kernel
theorem dX4_undo_27 : decode cX4_undo 27 = .ok (.aload_n 0, 1) := by decide +kernel
theorem dX4_undo_28 : decode cX4_undo 28 = .ok (.getfield 47, 3) := by decide +kernel
theorem dX4_undo_31 : decode cX4_undo 31 = .ok (.bipush 13, 2) := by decide +kernel
theorem dX4_undo_33 : decode cX4_undo 33 = .ok (.iload_n 1, 1) := by decide +kernel
theorem dX4_undo_34 : decode cX4_undo 34 = .ok (.imul, 1) := by decide +kernel
theorem dX4_undo_35 : decode cX4_undo 35 = .ok (.aload_n 0, 1) := by decide +kernel
theorem dX4_undo_36 : decode cX4_undo 36 = .ok (.getfield 38, 3) := by decide +kernel
theorem dX4_undo_39 : decode cX4_undo 39 = .ok (.iconst 0, 1) := by decide +kernel
theorem dX4_undo_40 : decode cX4_undo 40 = .ok (.bipush 13, 2) := by decide +kernel
theorem dX4_undo_42 : decode cX4_undo 42 = .ok (.invokestatic 174, 3) := by decide +kernel
theorem dX4_undo_45 : decode cX4_undo 45 = .ok (.aload_n 0, 1) := by decide +kernel
theorem dX4_undo_46 : decode cX4_undo 46 = .ok (.iload_n 1, 1) := by decide +kernel
theorem dX4_undo_47 : decode cX4_undo 47 = .ok (.putfield 94, 3) := by decide +kernel
theorem dX4_undo_50 : decode cX4_undo 50 = .ok (.iload_n 2, 1) := by decide +kernel
theorem dX4_undo_51 : decode cX4_undo 51 = .ok (.ireturn, 1) := by decide +kernel
theorem dX4_keep_0 : decode cX4_keep 0 = .ok (.iload_n 1, 1) := by decide +kernel
theorem dX4_keep_1 : decode cX4_keep 1 = .ok (.i2l, 1) := by decide +kernel
theorem dX4_keep_2 : decode cX4_keep 2 = .ok (.lconst 0, 1) := by decide +kernel
theorem dX4_keep_3 : decode cX4_keep 3 = .ok (.ldc2_w 184, 3) := by decide +kernel
theorem dX4_keep_6 : decode cX4_keep 6 = .ok (.invokestatic 74, 3) := by decide +kernel
theorem dX4_keep_9 : decode cX4_keep 9 = .ok (.ifCond .ne 5, 3) := by decide +kernel
theorem dX4_keep_12 : decode cX4_keep 12 = .ok (.iconst (-1), 1) := by decide +kernel
theorem dX4_keep_13 : decode cX4_keep 13 = .ok (.ireturn, 1) := by decide +kernel
theorem dX4_keep_14 : decode cX4_keep 14 = .ok (.aload_n 0, 1) := by decide +kernel
theorem dX4_keep_15 : decode cX4_keep 15 = .ok (.getfield 136, 3) := by decide +kernel
theorem dX4_keep_18 : decode cX4_keep 18 = .ok (.ifCond .ne 6, 3) := by decide +kernel
theorem dX4_keep_21 : decode cX4_keep 21 = .ok (.bipush (-4), 2) := by decide +kernel
theorem dX4_keep_23 : decode cX4_keep 23 = .ok (.ireturn, 1) := by decide +kernel
theorem dX4_keep_24 : decode cX4_keep 24 = .ok (.aload_n 0, 1) := by decide +kernel
theorem dX4_keep_25 : decode cX4_keep 25 = .ok (.getfield 50, 3) := by decide +kernel
theorem dX4_keep_28 : decode cX4_keep 28 = .ok (.sipush 534, 3) := by decide +kernel
theorem dX4_keep_31 : decode cX4_keep 31 = .ok (.iload_n 1, 1) := by decide +kernel
theorem dX4_keep_32 : decode cX4_keep 32 = .ok (.imul, 1) := by decide +kernel
theorem dX4_keep_33 : decode cX4_keep 33 = .ok (.aload_n 0, 1) := by decide +kernel
theorem dX4_keep_34 : decode cX4_keep 34 = .ok (.getfield 94, 3) := by decide +kernel
theorem dX4_keep_37 : decode cX4_keep 37 = .ok (.iastore, 1) := by decide +kernel
theorem dX4_keep_38 : decode cX4_keep 38 = .ok (.aload_n 0, 1) := by decide +kernel
theorem dX4_keep_39 : decode cX4_keep 39 = .ok (.getfield 38, 3) := by decide +kernel
theorem dX4_keep_42 : decode cX4_keep 42 = .ok (.iconst 0, 1) := by decide +kernel
theorem dX4_keep_43 : decode cX4_keep 43 = .ok (.aload_n 0, 1) := by decide +kernel
theorem dX4_keep_44 : decode cX4_keep 44 = .ok (.getfield 50, 3) := by decide +kernel
theorem dX4_keep_47 : decode cX4_keep 47 = .ok (.sipush 534, 3) := by decide +kernel
theorem dX4_keep_50 : decode cX4_keep 50 = .ok (.iload_n 1, 1) := by decide +kernel
theorem dX4_keep_51 : decode cX4_keep 51 = .ok (.imul, 1) := by decide +kernel
theorem dX4_keep_52 : decode cX4_keep 52 = .ok (.iconst 1, 1) := by decide +kernel
theorem dX4_keep_53 : decode cX4_keep 53 = .ok (.iadd, 1) := by decide +kernel
theorem dX4_keep_54 : decode cX4_keep 54 = .ok (.bipush 13, 2) := by decide +kernel
theorem dX4_keep_56 : decode cX4_keep 56 = .ok (.invokestatic 174, 3) := by decide +kernel
theorem dX4_keep_59 : decode cX4_keep 59 = .ok (.aload_n 0, 1) := by decide +kernel
theorem dX4_keep_60 : decode cX4_keep 60 = .ok (.getfield 47, 3) := by decide +kernel
theorem dX4_keep_63 : decode cX4_keep 63 = .ok (.iconst 0, 1) := by decide +kernel
theorem dX4_keep_64 : decode cX4_keep 64 = .ok (.aload_n 0, 1) := by decide +kernel
theorem dX4_keep_65 : decode cX4_keep 65 = .ok (.getfield 50, 3) := by decide +kernel
theorem dX4_keep_68 : decode cX4_keep 68 = .ok (.sipush 534, 3) := by decide +kernel
theorem dX4_keep_71 : decode cX4_keep 71 = .ok (.iload_n 1, 1) := by decide +kernel
theorem dX4_keep_72 : decode cX4_keep 72 = .ok (.imul, 1) := by decide +kernel
theorem dX4_keep_73 : decode cX4_keep 73 = .ok (.iconst 1, 1) := by decide +kernel
theorem dX4_keep_74 : decode cX4_keep 74 = .ok (.iadd, 1) := by decide +kernel
theorem dX4_keep_75 : decode cX4_keep 75 = .ok (.bipush 13, 2) := by decide +kernel
theorem dX4_keep_77 : decode cX4_keep 77 = .ok (.iadd, 1) := by decide +kernel
theorem dX4_keep_78 : decode cX4_keep 78 = .ok (.sipush 520, 3) := by decide +kernel
theorem dX4_keep_81 : decode cX4_keep 81 = .ok (.invokestatic 174, 3) := by decide +kernel
theorem dX4_keep_84 : decode cX4_keep 84 = .ok (.aload_n 0, 1) := by decide +kernel
theorem dX4_keep_85 : decode cX4_keep 85 = .ok (.getfield 94, 3) := by decide +kernel
theorem dX4_keep_88 : decode cX4_keep 88 = .ok (.ireturn, 1) := by decide +kernel
theorem dX4_on_0 : decode cX4_on 0 = .ok (.iload_n 1, 1) := by decide +kernel
theorem dX4_on_1 : decode cX4_on 1 = .ok (.i2l, 1) := by decide +kernel
theorem dX4_on_2 : decode cX4_on 2 = .ok (.lconst 0, 1) := by decide +kernel
theorem dX4_on_3 : decode cX4_on 3 = .ok (.ldc2_w 184, 3) := by decide +kernel
theorem dX4_on_6 : decode cX4_on 6 = .ok (.invokestatic 74, 3) := by decide +kernel
theorem dX4_on_9 : decode cX4_on 9 = .ok (.ifCond .ne 5, 3) := by decide +kernel
theorem dX4_on_12 : decode cX4_on 12 = .ok (.iconst (-1), 1) := by decide +kernel
theorem dX4_on_13 : decode cX4_on 13 = .ok (.ireturn, 1) := by decide +kernel
theorem dX4_on_14 : decode cX4_on 14 = .ok (.aload_n 0, 1) := by decide +kernel
theorem dX4_on_15 : decode cX4_on 15 = .ok (.getfield 50, 3) := by decide +kernel
theorem dX4_on_18 : decode cX4_on 18 = .ok (.sipush 534, 3) := by decide +kernel
theorem dX4_on_21 : decode cX4_on 21 = .ok (.iload_n 1, 1) := by decide +kernel
theorem dX4_on_22 : decode cX4_on 22 = .ok (.imul, 1) := by decide +kernel
theorem dX4_on_23 : decode cX4_on 23 = .ok (.iaload, 1) := by decide +kernel
theorem dX4_on_24 : decode cX4_on 24 = .ok (.ifCond .ge 9, 3) := by decide +kernel
theorem dX4_on_27 : decode cX4_on 27 = .ok (.aload_n 0, 1) := by decide +kernel
theorem dX4_on_28 : decode cX4_on 28 = .ok (.iconst 1, 1) := by decide +kernel
theorem dX4_on_29 : decode cX4_on 29 = .ok (.invokevirtual 84, 3) := by decide +kernel
theorem dX4_on_32 : decode cX4_on 32 = .ok (.ireturn, 1) := by decide +kernel
theorem dX4_on_33 : decode cX4_on 33 = .ok (.aload_n 0, 1) := by decide +kernel
theorem dX4_on_34 : decode cX4_on 34 = .ok (.aload_n 0, 1) := by decide +kernel
theorem dX4_on_35 : decode cX4_on 35 = .ok (.getfield 50, 3) := by decide +kernel
theorem dX4_on_38 : decode cX4_on 38 = .ok (.sipush 534, 3) := by decide +kernel
theorem dX4_on_41 : decode cX4_on 41 = .ok (.iload_n 1, 1) := by decide +kernel
theorem dX4_on_42 : decode cX4_on 42 = .ok (.imul, 1) := by decide +kernel
theorem dX4_on_43 : decode cX4_on 43 = .ok (.iaload, 1) := by decide +kernel
theorem dX4_on_44 : decode cX4_on 44 = .ok (.putfield 94, 3) := by decide +kernel
theorem dX4_on_47 : decode cX4_on 47 = .ok (.aload_n 0, 1) := by decide +kernel
theorem dX4_on_48 : decode cX4_on 48 = .ok (.getfield 50, 3) := by decide +kernel
theorem dX4_on_51 : decode cX4_on 51 = .ok (.sipush 534, 3) := by decide +kernel
theorem dX4_on_54 : decode cX4_on 54 = .ok (.iload_n 1, 1) := by decide +kernel
theorem dX4_on_55 : decode cX4_on 55 = .ok (.imul, 1) := by decide +kernel
theorem dX4_on_56 : decode cX4_on 56 = .ok (.iconst 1, 1) := by decide +kernel
theorem dX4_on_57 : decode cX4_on 57 = .ok (.iadd, 1) := by decide +kernel
theorem dX4_on_58 : decode cX4_on 58 = .ok (.aload_n 0, 1) := by decide +kernel
theorem dX4_on_59 : decode cX4_on 59 = .ok (.getfield 38, 3) := by decide +kernel
theorem dX4_on_62 : decode cX4_on 62 = .ok (.iconst 0, 1) := by decide +kernel
theorem dX4_on_63 : decode cX4_on 63 = .ok (.bipush 13, 2) := by decide +kernel
theorem dX4_on_65 : decode cX4_on 65 = .ok (.invokestatic 174, 3) := by decide +kernel
theorem dX4_on_68 : decode cX4_on 68 = .ok (.aload_n 0, 1) := by decide +kernel
theorem dX4_on_69 : decode cX4_on 69 = .ok (.getfield 50, 3) := by decide +kernel
theorem dX4_on_72 : decode cX4_on 72 = .ok (.sipush 534, 3) := by decide +kernel
theorem dX4_on_75 : decode cX4_on 75 = .ok (.iload_n 1, 1) := by decide +kernel
theorem dX4_on_76 : decode cX4_on 76 = .ok (.imul, 1) := by decide +kernel
theorem dX4_on_77 : decode cX4_on 77 = .ok (.iconst 1, 1) := by decide +kernel
theorem dX4_on_78 : decode cX4_on 78 = .ok (.iadd, 1) := by decide +kernel
theorem dX4_on_79 : decode cX4_on 79 = .ok (.bipush 13, 2) := by decide +kernel
theorem dX4_on_81 : decode cX4_on 81 = .ok (.iadd, 1) := by decide +kernel
theorem dX4_on_82 : decode cX4_on 82 = .ok (.aload_n 0, 1) := by decide +kernel
theorem dX4_on_83 : decode cX4_on 83 = .ok (.getfield 47, 3) := by decide +kernel
theorem dX4_on_86 : decode cX4_on 86 = .ok (.iconst 0, 1) := by decide +kernel
theorem dX4_on_87 : decode cX4_on 87 = .ok (.sipush 520, 3) := by decide +kernel
theorem dX4_on_90 : decode cX4_on 90 = .ok (.invokestatic 174, 3) := by decide +kernel
theorem dX4_on_93 : decode cX4_on 93 = .ok (.aload_n 0, 1) := by decide +kernel
theorem dX4_on_94 : decode cX4_on 94 = .ok (.getfield 94, 3) := by decide +kernel
theorem dX4_on_97 : decode cX4_on 97 = .ok (.ireturn, 1) := by decide +kernel
theorem dX4_layAside_0 : decode cX4_layAside 0 = .ok (.aload_n 0, 1) := by decide +kernel
theorem dX4_layAside_1 : decode cX4_layAside 1 = .ok (.getfield 38, 3) := by decide +kernel
theorem dX4_layAside_4 : decode cX4_layAside 4 = .ok (.iconst 0, 1) := by decide +kernel
theorem dX4_layAside_5 : decode cX4_layAside 5 = .ok (.aload_n 0, 1) := by decide +kernel
theorem dX4_layAside_6 : decode cX4_layAside 6 = .ok (.getfield 41, 3) := by decide +kernel
theorem dX4_layAside_9 : decode cX4_layAside 9 = .ok (.iconst 0, 1) := by decide +kernel
theorem dX4_layAside_10 : decode cX4_layAside 10 = .ok (.bipush 13, 2) := by decide +kernel
theorem dX4_layAside_12 : decode cX4_layAside 12 = .ok (.invokestatic 174, 3) := by decide +kernel
theorem dX4_layAside_15 : decode cX4_layAside 15 = .ok (.return_, 1) := by decide +kernel
theorem dX4_givesIn_0 : decode cX4_givesIn 0 = .ok (.iconst 0, 1) := by decide +kernel
theorem dX4_givesIn_1 : decode cX4_givesIn 1 = .ok (.istore_n 2, 1) := by decide +kernel
theorem dX4_givesIn_2 : decode cX4_givesIn 2 = .ok (.iconst 0, 1) := by decide +kernel
theorem dX4_givesIn_3 : decode cX4_givesIn 3 = .ok (.istore_n 3, 1) := by decide +kernel
theorem dX4_givesIn_4 : decode cX4_givesIn 4 = .ok (.iload_n 3, 1) := by decide +kernel
theorem dX4_givesIn_5 : decode cX4_givesIn 5 = .ok (.iload_n 1, 1) := by decide +kernel
theorem dX4_givesIn_6 : decode cX4_givesIn 6 = .ok (.if_icmp .ge 20, 3) := by decide +kernel
theorem dX4_givesIn_9 : decode cX4_givesIn 9 = .ok (.iload_n 2, 1) := by decide +kernel
theorem dX4_givesIn_10 : decode cX4_givesIn 10 = .ok (.aload_n 0, 1) := by decide +kernel
theorem dX4_givesIn_11 : decode cX4_givesIn 11 = .ok (.aload_n 0, 1) := by decide +kernel
theorem dX4_givesIn_12 : decode cX4_givesIn 12 = .ok (.getfield 41, 3) := by decide +kernel
theorem dX4_givesIn_15 : decode cX4_givesIn 15 = .ok (.invokevirtual 181, 3) := by decide +kernel
theorem dX4_givesIn_18 : decode cX4_givesIn 18 = .ok (.iadd, 1) := by decide +kernel
theorem dX4_givesIn_19 : decode cX4_givesIn 19 = .ok (.istore_n 2, 1) := by decide +kernel
theorem dX4_givesIn_20 : decode cX4_givesIn 20 = .ok (.iinc 3 1, 3) := by decide +kernel
theorem dX4_givesIn_23 : decode cX4_givesIn 23 = .ok (.goto (-19), 3) := by decide +kernel
theorem dX4_givesIn_26 : decode cX4_givesIn 26 = .ok (.iload_n 2, 1) := by decide +kernel
theorem dX4_givesIn_27 : decode cX4_givesIn 27 = .ok (.ireturn, 1) := by decide +kernel
theorem dX4_box_0 : decode cX4_box 0 = .ok (.aload_n 0, 1) := by decide +kernel
theorem dX4_box_1 : decode cX4_box 1 = .ok (.getfield 136, 3) := by decide +kernel
theorem dX4_box_4 : decode cX4_box 4 = .ok (.ifCond .ne 6, 3) := by decide +kernel
theorem dX4_box_7 : decode cX4_box 7 = .ok (.bipush (-4), 2) := by decide +kernel
theorem dX4_box_9 : decode cX4_box 9 = .ok (.ireturn, 1) := by decide +kernel
theorem dX4_box_10 : decode cX4_box 10 = .ok (.aload_n 0, 1) := by decide +kernel
theorem dX4_box_11 : decode cX4_box 11 = .ok (.aload_n 0, 1) := by decide +kernel
theorem dX4_box_12 : decode cX4_box 12 = .ok (.getfield 38, 3) := by decide +kernel
theorem dX4_box_15 : decode cX4_box 15 = .ok (.invokevirtual 150, 3) := by decide +kernel
theorem dX4_box_18 : decode cX4_box 18 = .ok (.istore_n 1, 1) := by decide +kernel
theorem dX4_box_19 : decode cX4_box 19 = .ok (.iconst 0, 1) := by decide +kernel
theorem dX4_box_20 : decode cX4_box 20 = .ok (.istore_n 2, 1) := by decide +kernel
theorem dX4_box_21 : decode cX4_box 21 = .ok (.aload_n 0, 1) := by decide +kernel
theorem dX4_box_22 : decode cX4_box 22 = .ok (.getfield 44, 3) := by decide +kernel
theorem dX4_box_25 : decode cX4_box 25 = .ok (.iload_n 2, 1) := by decide +kernel
theorem dX4_box_26 : decode cX4_box 26 = .ok (.iaload, 1) := by decide +kernel
theorem dX4_box_27 : decode cX4_box 27 = .ok (.iload_n 1, 1) := by decide +kernel
theorem dX4_box_28 : decode cX4_box 28 = .ok (.if_icmp .ge 9, 3) := by decide +kernel
theorem dX4_box_31 : decode cX4_box 31 = .ok (.iinc 2 1, 3) := by decide +kernel
theorem dX4_box_34 : decode cX4_box 34 = .ok (.goto (-13), 3) := by decide +kernel
theorem dX4_box_37 : decode cX4_box 37 = .ok (.aload_n 0, 1) := by decide +kernel
theorem dX4_box_38 : decode cX4_box 38 = .ok (.aload_n 0, 1) := by decide +kernel
theorem dX4_box_39 : decode cX4_box 39 = .ok (.iload_n 1, 1) := by decide +kernel
theorem dX4_box_40 : decode cX4_box 40 = .ok (.invokevirtual 154, 3) := by decide +kernel
theorem dX4_box_43 : decode cX4_box 43 = .ok (.iload_n 2, 1) := by decide +kernel
theorem dX4_box_44 : decode cX4_box 44 = .ok (.invokevirtual 186, 3) := by decide +kernel
theorem dX4_box_47 : decode cX4_box 47 = .ok (.ireturn, 1) := by decide +kernel
theorem dX4_later_0 : decode cX4_later 0 = .ok (.aload_n 0, 1) := by decide +kernel
theorem dX4_later_1 : decode cX4_later 1 = .ok (.iload_n 1, 1) := by decide +kernel
theorem dX4_later_2 : decode cX4_later 2 = .ok (.invokevirtual 157, 3) := by decide +kernel
theorem dX4_later_5 : decode cX4_later 5 = .ok (.ifCond .eq 15, 3) := by decide +kernel
theorem dX4_later_8 : decode cX4_later 8 = .ok (.iload_n 2, 1) := by decide +kernel
theorem dX4_later_9 : decode cX4_later 9 = .ok (.i2l, 1) := by decide +kernel
theorem dX4_later_10 : decode cX4_later 10 = .ok (.lconst 0, 1) := by decide +kernel
theorem dX4_later_11 : decode cX4_later 11 = .ok (.ldc2_w 189, 3) := by decide +kernel
theorem dX4_later_14 : decode cX4_later 14 = .ok (.invokestatic 74, 3) := by decide +kernel
theorem dX4_later_17 : decode cX4_later 17 = .ok (.ifCond .ne 5, 3) := by decide +kernel
theorem dX4_later_20 : decode cX4_later 20 = .ok (.iconst (-1), 1) := by decide +kernel
theorem dX4_later_21 : decode cX4_later 21 = .ok (.ireturn, 1) := by decide +kernel
theorem dX4_later_22 : decode cX4_later 22 = .ok (.aload_n 0, 1) := by decide +kernel
theorem dX4_later_23 : decode cX4_later 23 = .ok (.invokevirtual 191, 3) := by decide +kernel
theorem dX4_later_26 : decode cX4_later 26 = .ok (.iconst 0, 1) := by decide +kernel
theorem dX4_later_27 : decode cX4_later 27 = .ok (.istore_n 3, 1) := by decide +kernel
theorem dX4_later_28 : decode cX4_later 28 = .ok (.iconst 0, 1) := by decide +kernel
theorem dX4_later_29 : decode cX4_later 29 = .ok (.istore 4, 2) := by decide +kernel
theorem dX4_later_31 : decode cX4_later 31 = .ok (.iload 4, 2) := by decide +kernel
theorem dX4_later_33 : decode cX4_later 33 = .ok (.iload_n 2, 1) := by decide +kernel
theorem dX4_later_34 : decode cX4_later 34 = .ok (.if_icmp .ge 41, 3) := by decide +kernel
theorem dX4_later_37 : decode cX4_later 37 = .ok (.aload_n 0, 1) := by decide +kernel
theorem dX4_later_38 : decode cX4_later 38 = .ok (.aload_n 0, 1) := by decide +kernel
theorem dX4_later_39 : decode cX4_later 39 = .ok (.getfield 41, 3) := by decide +kernel
theorem dX4_later_42 : decode cX4_later 42 = .ok (.invokevirtual 150, 3) := by decide +kernel
theorem dX4_later_45 : decode cX4_later 45 = .ok (.istore 5, 2) := by decide +kernel
theorem dX4_later_47 : decode cX4_later 47 = .ok (.iload_n 3, 1) := by decide +kernel
theorem dX4_later_48 : decode cX4_later 48 = .ok (.iload 5, 2) := by decide +kernel
theorem dX4_later_50 : decode cX4_later 50 = .ok (.aload_n 0, 1) := by decide +kernel
theorem dX4_later_51 : decode cX4_later 51 = .ok (.getfield 44, 3) := by decide +kernel
theorem dX4_later_54 : decode cX4_later 54 = .ok (.iload_n 1, 1) := by decide +kernel
theorem dX4_later_55 : decode cX4_later 55 = .ok (.iaload, 1) := by decide +kernel
theorem dX4_later_56 : decode cX4_later 56 = .ok (.isub, 1) := by decide +kernel
theorem dX4_later_57 : decode cX4_later 57 = .ok (.iadd, 1) := by decide +kernel
theorem dX4_later_58 : decode cX4_later 58 = .ok (.istore_n 3, 1) := by decide +kernel
theorem dX4_later_59 : decode cX4_later 59 = .ok (.aload_n 0, 1) := by decide +kernel
theorem dX4_later_60 : decode cX4_later 60 = .ok (.aload_n 0, 1) := by decide +kernel
theorem dX4_later_61 : decode cX4_later 61 = .ok (.getfield 41, 3) := by decide +kernel
theorem dX4_later_64 : decode cX4_later 64 = .ok (.invokevirtual 181, 3) := by decide +kernel
theorem dX4_later_67 : decode cX4_later 67 = .ok (.istore 6, 2) := by decide +kernel
theorem dX4_later_69 : decode cX4_later 69 = .ok (.iinc 4 1, 3) := by decide +kernel
theorem dX4_later_72 : decode cX4_later 72 = .ok (.goto (-41), 3) := by decide +kernel
theorem dX4_later_75 : decode cX4_later 75 = .ok (.aload_n 0, 1) := by decide +kernel
theorem dX4_later_76 : decode cX4_later 76 = .ok (.aload_n 0, 1) := by decide +kernel
theorem dX4_later_77 : decode cX4_later 77 = .ok (.getfield 41, 3) := by decide +kernel
theorem dX4_later_80 : decode cX4_later 80 = .ok (.iconst 1, 1) := by decide +kernel
theorem dX4_later_81 : decode cX4_later 81 = .ok (.iload_n 1, 1) := by decide +kernel
theorem dX4_later_82 : decode cX4_later 82 = .ok (.iadd, 1) := by decide +kernel
theorem dX4_later_83 : decode cX4_later 83 = .ok (.iaload, 1) := by decide +kernel
theorem dX4_later_84 : decode cX4_later 84 = .ok (.iload_n 3, 1) := by decide +kernel
theorem dX4_later_85 : decode cX4_later 85 = .ok (.invokevirtual 186, 3) := by decide +kernel
theorem dX4_later_88 : decode cX4_later 88 = .ok (.ireturn, 1) := by decide +kernel
theorem dX4_settles_0 : decode cX4_settles 0 = .ok (.aload_n 0, 1) := by decide +kernel
theorem dX4_settles_1 : decode cX4_settles 1 = .ok (.getfield 136, 3) := by decide +kernel
theorem dX4_settles_4 : decode cX4_settles 4 = .ok (.ifCond .ne 6, 3) := by decide +kernel
theorem dX4_settles_7 : decode cX4_settles 7 = .ok (.bipush (-4), 2) := by decide +kernel
theorem dX4_settles_9 : decode cX4_settles 9 = .ok (.ireturn, 1) := by decide +kernel
theorem dX4_settles_10 : decode cX4_settles 10 = .ok (.aload_n 0, 1) := by decide +kernel
theorem dX4_settles_11 : decode cX4_settles 11 = .ok (.invokevirtual 191, 3) := by decide +kernel
theorem dX4_settles_14 : decode cX4_settles 14 = .ok (.iconst 0, 1) := by decide +kernel
theorem dX4_settles_15 : decode cX4_settles 15 = .ok (.istore_n 1, 1) := by decide +kernel
theorem dX4_settles_16 : decode cX4_settles 16 = .ok (.iload_n 1, 1) := by decide +kernel
theorem dX4_settles_17 : decode cX4_settles 17 = .ok (.bipush 61, 2) := by decide +kernel
theorem dX4_settles_19 : decode cX4_settles 19 = .ok (.if_icmp .ge 115, 3) := by decide +kernel
theorem dX4_settles_22 : decode cX4_settles 22 = .ok (.aload_n 0, 1) := by decide +kernel
theorem dX4_settles_23 : decode cX4_settles 23 = .ok (.aload_n 0, 1) := by decide +kernel
theorem dX4_settles_24 : decode cX4_settles 24 = .ok (.getfield 41, 3) := by decide +kernel
theorem dX4_settles_27 : decode cX4_settles 27 = .ok (.invokevirtual 150, 3) := by decide +kernel
theorem dX4_settles_30 : decode cX4_settles 30 = .ok (.istore_n 2, 1) := by decide +kernel
theorem dX4_settles_31 : decode cX4_settles 31 = .ok (.iconst 1, 1) := by decide +kernel
theorem dX4_settles_32 : decode cX4_settles 32 = .ok (.istore_n 3, 1) := by decide +kernel
theorem dX4_settles_33 : decode cX4_settles 33 = .ok (.iconst 0, 1) := by decide +kernel
theorem dX4_settles_34 : decode cX4_settles 34 = .ok (.istore 4, 2) := by decide +kernel
theorem dX4_settles_36 : decode cX4_settles 36 = .ok (.iload 4, 2) := by decide +kernel
theorem dX4_settles_38 : decode cX4_settles 38 = .ok (.aload_n 0, 1) := by decide +kernel
theorem dX4_settles_39 : decode cX4_settles 39 = .ok (.getfield 136, 3) := by decide +kernel
theorem dX4_settles_42 : decode cX4_settles 42 = .ok (.if_icmp .ge 64, 3) := by decide +kernel
theorem dX4_settles_45 : decode cX4_settles 45 = .ok (.aload_n 0, 1) := by decide +kernel
theorem dX4_settles_46 : decode cX4_settles 46 = .ok (.getfield 41, 3) := by decide +kernel
theorem dX4_settles_49 : decode cX4_settles 49 = .ok (.iconst 1, 1) := by decide +kernel
theorem dX4_settles_50 : decode cX4_settles 50 = .ok (.iload 4, 2) := by decide +kernel
theorem dX4_settles_52 : decode cX4_settles 52 = .ok (.iadd, 1) := by decide +kernel
theorem dX4_settles_53 : decode cX4_settles 53 = .ok (.iaload, 1) := by decide +kernel
theorem dX4_settles_54 : decode cX4_settles 54 = .ok (.istore 5, 2) := by decide +kernel
theorem dX4_settles_56 : decode cX4_settles 56 = .ok (.iload_n 3, 1) := by decide +kernel
theorem dX4_settles_57 : decode cX4_settles 57 = .ok (.ifCond .eq 41, 3) := by decide +kernel
theorem dX4_settles_60 : decode cX4_settles 60 = .ok (.iload 5, 2) := by decide +kernel
theorem dX4_settles_62 : decode cX4_settles 62 = .ok (.iconst 0, 1) := by decide +kernel
theorem dX4_settles_63 : decode cX4_settles 63 = .ok (.bipush 99, 2) := by decide +kernel
theorem dX4_settles_65 : decode cX4_settles 65 = .ok (.iload 5, 2) := by decide +kernel
theorem dX4_settles_67 : decode cX4_settles 67 = .ok (.iload_n 2, 1) := by decide +kernel
theorem dX4_settles_68 : decode cX4_settles 68 = .ok (.iadd, 1) := by decide +kernel
theorem dX4_settles_69 : decode cX4_settles 69 = .ok (.aload_n 0, 1) := by decide +kernel
theorem dX4_settles_70 : decode cX4_settles 70 = .ok (.getfield 44, 3) := by decide +kernel
theorem dX4_settles_73 : decode cX4_settles 73 = .ok (.iload 4, 2) := by decide +kernel
theorem dX4_settles_75 : decode cX4_settles 75 = .ok (.iaload, 1) := by decide +kernel
theorem dX4_settles_76 : decode cX4_settles 76 = .ok (.isub, 1) := by decide +kernel
theorem dX4_settles_77 : decode cX4_settles 77 = .ok (.aload_n 0, 1) := by decide +kernel
theorem dX4_settles_78 : decode cX4_settles 78 = .ok (.getfield 35, 3) := by decide +kernel
theorem dX4_settles_81 : decode cX4_settles 81 = .ok (.iload 4, 2) := by decide +kernel
theorem dX4_settles_83 : decode cX4_settles 83 = .ok (.iaload, 1) := by decide +kernel
theorem dX4_settles_84 : decode cX4_settles 84 = .ok (.isub, 1) := by decide +kernel
theorem dX4_settles_85 : decode cX4_settles 85 = .ok (.invokestatic 143, 3) := by decide +kernel
theorem dX4_settles_88 : decode cX4_settles 88 = .ok (.invokestatic 139, 3) := by decide +kernel
theorem dX4_settles_91 : decode cX4_settles 91 = .ok (.if_icmp .ne 7, 3) := by decide +kernel
theorem dX4_settles_94 : decode cX4_settles 94 = .ok (.iconst 1, 1) := by decide +kernel
theorem dX4_settles_95 : decode cX4_settles 95 = .ok (.goto 4, 3) := by decide +kernel
theorem dX4_settles_98 : decode cX4_settles 98 = .ok (.iconst 0, 1) := by decide +kernel
theorem dX4_settles_99 : decode cX4_settles 99 = .ok (.istore_n 3, 1) := by decide +kernel
end
section
theorem dX4_settles_100 : decode cX4_settles 100 = .ok (.iinc 4 1, 3) := by decide +kernel
theorem dX4_settles_103 : decode cX4_settles 103 = .ok (.goto (-67), 3) := by decide +kernel
theorem dX4_settles_106 : decode cX4_settles 106 = .ok (.aload_n 0, 1) := by decide +kernel
theorem dX4_settles_107 : decode cX4_settles 107 = .ok (.aload_n 0, 1) := by decide +kernel
theorem dX4_settles_108 : decode cX4_settles 108 = .ok (.getfield 41, 3) := by decide +kernel
theorem dX4_settles_111 : decode cX4_settles 111 = .ok (.invokevirtual 181, 3) := by decide +kernel
theorem dX4_settles_114 : decode cX4_settles 114 = .ok (.istore 4, 2) := by decide +kernel
theorem dX4_settles_116 : decode cX4_settles 116 = .ok (.iload_n 3, 1) := by decide +kernel
theorem dX4_settles_117 : decode cX4_settles 117 = .ok (.ifCond .eq 11, 3) := by decide +kernel
theorem dX4_settles_120 : decode cX4_settles 120 = .ok (.aload_n 0, 1) := by decide +kernel
theorem dX4_settles_121 : decode cX4_settles 121 = .ok (.iload_n 1, 1) := by decide +kernel
theorem dX4_settles_122 : decode cX4_settles 122 = .ok (.iload 4, 2) := by decide +kernel
theorem dX4_settles_124 : decode cX4_settles 124 = .ok (.invokevirtual 186, 3) := by decide +kernel
theorem dX4_settles_127 : decode cX4_settles 127 = .ok (.ireturn, 1) := by decide +kernel
theorem dX4_settles_128 : decode cX4_settles 128 = .ok (.iinc 1 1, 3) := by decide +kernel
theorem dX4_settles_131 : decode cX4_settles 131 = .ok (.goto (-115), 3) := by decide +kernel
theorem dX4_settles_134 : decode cX4_settles 134 = .ok (.bipush (-9), 2) := by decide +kernel
theorem dX4_settles_136 : decode cX4_settles 136 = .ok (.ireturn, 1) := by decide +kernel
theorem dX4_mill_0 : decode cX4_mill 0 = .ok (.iload_n 1, 1) := by decide +kernel
theorem dX4_mill_1 : decode cX4_mill 1 = .ok (.i2l, 1) := by decide +kernel
theorem dX4_mill_2 : decode cX4_mill 2 = .ok (.lconst 0, 1) := by decide +kernel
theorem dX4_mill_3 : decode cX4_mill 3 = .ok (.ldc2_w 172, 3) := by decide +kernel
theorem dX4_mill_6 : decode cX4_mill 6 = .ok (.invokestatic 74, 3) := by decide +kernel
theorem dX4_mill_9 : decode cX4_mill 9 = .ok (.ifCond .ne 5, 3) := by decide +kernel
theorem dX4_mill_12 : decode cX4_mill 12 = .ok (.iconst (-1), 1) := by decide +kernel
theorem dX4_mill_13 : decode cX4_mill 13 = .ok (.ireturn, 1) := by decide +kernel
theorem dX4_mill_14 : decode cX4_mill 14 = .ok (.aload_n 0, 1) := by decide +kernel
theorem dX4_mill_15 : decode cX4_mill 15 = .ok (.getfield 136, 3) := by decide +kernel
theorem dX4_mill_18 : decode cX4_mill 18 = .ok (.ifCond .ne 6, 3) := by decide +kernel
theorem dX4_mill_21 : decode cX4_mill 21 = .ok (.bipush (-4), 2) := by decide +kernel
theorem dX4_mill_23 : decode cX4_mill 23 = .ok (.ireturn, 1) := by decide +kernel
theorem dX4_mill_24 : decode cX4_mill 24 = .ok (.aload_n 0, 1) := by decide +kernel
theorem dX4_mill_25 : decode cX4_mill 25 = .ok (.invokevirtual 191, 3) := by decide +kernel
theorem dX4_mill_28 : decode cX4_mill 28 = .ok (.iconst 0, 1) := by decide +kernel
theorem dX4_mill_29 : decode cX4_mill 29 = .ok (.istore_n 2, 1) := by decide +kernel
theorem dX4_mill_30 : decode cX4_mill 30 = .ok (.iload_n 2, 1) := by decide +kernel
theorem dX4_mill_31 : decode cX4_mill 31 = .ok (.bipush 61, 2) := by decide +kernel
theorem dX4_mill_33 : decode cX4_mill 33 = .ok (.if_icmp .ge 53, 3) := by decide +kernel
theorem dX4_mill_36 : decode cX4_mill 36 = .ok (.iconst 0, 1) := by decide +kernel
theorem dX4_mill_37 : decode cX4_mill 37 = .ok (.istore_n 3, 1) := by decide +kernel
theorem dX4_mill_38 : decode cX4_mill 38 = .ok (.iload_n 3, 1) := by decide +kernel
theorem dX4_mill_39 : decode cX4_mill 39 = .ok (.aload_n 0, 1) := by decide +kernel
theorem dX4_mill_40 : decode cX4_mill 40 = .ok (.getfield 136, 3) := by decide +kernel
theorem dX4_mill_43 : decode cX4_mill 43 = .ok (.if_icmp .ge 28, 3) := by decide +kernel
theorem dX4_mill_46 : decode cX4_mill 46 = .ok (.aload_n 0, 1) := by decide +kernel
theorem dX4_mill_47 : decode cX4_mill 47 = .ok (.getfield 41, 3) := by decide +kernel
theorem dX4_mill_50 : decode cX4_mill 50 = .ok (.iconst 1, 1) := by decide +kernel
theorem dX4_mill_51 : decode cX4_mill 51 = .ok (.iload_n 3, 1) := by decide +kernel
theorem dX4_mill_52 : decode cX4_mill 52 = .ok (.iadd, 1) := by decide +kernel
theorem dX4_mill_53 : decode cX4_mill 53 = .ok (.iaload, 1) := by decide +kernel
theorem dX4_mill_54 : decode cX4_mill 54 = .ok (.iload_n 1, 1) := by decide +kernel
theorem dX4_mill_55 : decode cX4_mill 55 = .ok (.if_icmp .lt 10, 3) := by decide +kernel
theorem dX4_mill_58 : decode cX4_mill 58 = .ok (.aload_n 0, 1) := by decide +kernel
theorem dX4_mill_59 : decode cX4_mill 59 = .ok (.iload_n 3, 1) := by decide +kernel
theorem dX4_mill_60 : decode cX4_mill 60 = .ok (.iload_n 2, 1) := by decide +kernel
theorem dX4_mill_61 : decode cX4_mill 61 = .ok (.invokevirtual 186, 3) := by decide +kernel
theorem dX4_mill_64 : decode cX4_mill 64 = .ok (.ireturn, 1) := by decide +kernel
theorem dX4_mill_65 : decode cX4_mill 65 = .ok (.iinc 3 1, 3) := by decide +kernel
theorem dX4_mill_68 : decode cX4_mill 68 = .ok (.goto (-30), 3) := by decide +kernel
theorem dX4_mill_71 : decode cX4_mill 71 = .ok (.aload_n 0, 1) := by decide +kernel
theorem dX4_mill_72 : decode cX4_mill 72 = .ok (.aload_n 0, 1) := by decide +kernel
theorem dX4_mill_73 : decode cX4_mill 73 = .ok (.getfield 41, 3) := by decide +kernel
theorem dX4_mill_76 : decode cX4_mill 76 = .ok (.invokevirtual 181, 3) := by decide +kernel
theorem dX4_mill_79 : decode cX4_mill 79 = .ok (.istore_n 3, 1) := by decide +kernel
theorem dX4_mill_80 : decode cX4_mill 80 = .ok (.iinc 2 1, 3) := by decide +kernel
theorem dX4_mill_83 : decode cX4_mill 83 = .ok (.goto (-53), 3) := by decide +kernel
theorem dX4_mill_86 : decode cX4_mill 86 = .ok (.bipush (-9), 2) := by decide +kernel
theorem dX4_mill_88 : decode cX4_mill 88 = .ok (.ireturn, 1) := by decide +kernel
theorem dX4_purseBehind_0 : decode cX4_purseBehind 0 = .ok (.aload_n 0, 1) := by decide +kernel
theorem dX4_purseBehind_1 : decode cX4_purseBehind 1 = .ok (.iload_n 2, 1) := by decide +kernel
theorem dX4_purseBehind_2 : decode cX4_purseBehind 2 = .ok (.invokevirtual 194, 3) := by decide +kernel
theorem dX4_purseBehind_5 : decode cX4_purseBehind 5 = .ok (.istore_n 3, 1) := by decide +kernel
theorem dX4_purseBehind_6 : decode cX4_purseBehind 6 = .ok (.aload_n 0, 1) := by decide +kernel
theorem dX4_purseBehind_7 : decode cX4_purseBehind 7 = .ok (.getfield 41, 3) := by decide +kernel
theorem dX4_purseBehind_10 : decode cX4_purseBehind 10 = .ok (.iconst 1, 1) := by decide +kernel
theorem dX4_purseBehind_11 : decode cX4_purseBehind 11 = .ok (.iload_n 1, 1) := by decide +kernel
theorem dX4_purseBehind_12 : decode cX4_purseBehind 12 = .ok (.iadd, 1) := by decide +kernel
theorem dX4_purseBehind_13 : decode cX4_purseBehind 13 = .ok (.iaload, 1) := by decide +kernel
theorem dX4_purseBehind_14 : decode cX4_purseBehind 14 = .ok (.ireturn, 1) := by decide +kernel
theorem dX4_gains_0 : decode cX4_gains 0 = .ok (.iload_n 1, 1) := by decide +kernel
theorem dX4_gains_1 : decode cX4_gains 1 = .ok (.i2l, 1) := by decide +kernel
theorem dX4_gains_2 : decode cX4_gains 2 = .ok (.lconst 1, 1) := by decide +kernel
theorem dX4_gains_3 : decode cX4_gains 3 = .ok (.ldc2_w 197, 3) := by decide +kernel
theorem dX4_gains_6 : decode cX4_gains 6 = .ok (.invokestatic 74, 3) := by decide +kernel
theorem dX4_gains_9 : decode cX4_gains 9 = .ok (.ifCond .ne 5, 3) := by decide +kernel
theorem dX4_gains_12 : decode cX4_gains 12 = .ok (.iconst (-1), 1) := by decide +kernel
theorem dX4_gains_13 : decode cX4_gains 13 = .ok (.ireturn, 1) := by decide +kernel
theorem dX4_gains_14 : decode cX4_gains 14 = .ok (.aload_n 0, 1) := by decide +kernel
theorem dX4_gains_15 : decode cX4_gains 15 = .ok (.getfield 136, 3) := by decide +kernel
theorem dX4_gains_18 : decode cX4_gains 18 = .ok (.ifCond .ne 6, 3) := by decide +kernel
theorem dX4_gains_21 : decode cX4_gains 21 = .ok (.bipush (-4), 2) := by decide +kernel
theorem dX4_gains_23 : decode cX4_gains 23 = .ok (.ireturn, 1) := by decide +kernel
theorem dX4_gains_24 : decode cX4_gains 24 = .ok (.iconst 0, 1) := by decide +kernel
theorem dX4_gains_25 : decode cX4_gains 25 = .ok (.istore_n 2, 1) := by decide +kernel
theorem dX4_gains_26 : decode cX4_gains 26 = .ok (.iconst 0, 1) := by decide +kernel
theorem dX4_gains_27 : decode cX4_gains 27 = .ok (.istore_n 3, 1) := by decide +kernel
theorem dX4_gains_28 : decode cX4_gains 28 = .ok (.iload_n 3, 1) := by decide +kernel
theorem dX4_gains_29 : decode cX4_gains 29 = .ok (.aload_n 0, 1) := by decide +kernel
theorem dX4_gains_30 : decode cX4_gains 30 = .ok (.getfield 136, 3) := by decide +kernel
theorem dX4_gains_33 : decode cX4_gains 33 = .ok (.if_icmp .ge 72, 3) := by decide +kernel
theorem dX4_gains_36 : decode cX4_gains 36 = .ok (.aload_n 0, 1) := by decide +kernel
theorem dX4_gains_37 : decode cX4_gains 37 = .ok (.getfield 38, 3) := by decide +kernel
theorem dX4_gains_40 : decode cX4_gains 40 = .ok (.bipush 7, 2) := by decide +kernel
theorem dX4_gains_42 : decode cX4_gains 42 = .ok (.iload_n 3, 1) := by decide +kernel
theorem dX4_gains_43 : decode cX4_gains 43 = .ok (.iadd, 1) := by decide +kernel
theorem dX4_gains_44 : decode cX4_gains 44 = .ok (.iaload, 1) := by decide +kernel
theorem dX4_gains_45 : decode cX4_gains 45 = .ok (.iconst 3, 1) := by decide +kernel
theorem dX4_gains_46 : decode cX4_gains 46 = .ok (.if_icmp .ge 53, 3) := by decide +kernel
theorem dX4_gains_49 : decode cX4_gains 49 = .ok (.aload_n 0, 1) := by decide +kernel
theorem dX4_gains_50 : decode cX4_gains 50 = .ok (.invokevirtual 191, 3) := by decide +kernel
theorem dX4_gains_53 : decode cX4_gains 53 = .ok (.aload_n 0, 1) := by decide +kernel
theorem dX4_gains_54 : decode cX4_gains 54 = .ok (.iload_n 3, 1) := by decide +kernel
theorem dX4_gains_55 : decode cX4_gains 55 = .ok (.iload_n 1, 1) := by decide +kernel
theorem dX4_gains_56 : decode cX4_gains 56 = .ok (.invokevirtual 199, 3) := by decide +kernel
theorem dX4_gains_59 : decode cX4_gains 59 = .ok (.istore 4, 2) := by decide +kernel
theorem dX4_gains_61 : decode cX4_gains 61 = .ok (.aload_n 0, 1) := by decide +kernel
theorem dX4_gains_62 : decode cX4_gains 62 = .ok (.invokevirtual 191, 3) := by decide +kernel
theorem dX4_gains_65 : decode cX4_gains 65 = .ok (.aload_n 0, 1) := by decide +kernel
theorem dX4_gains_66 : decode cX4_gains 66 = .ok (.getfield 41, 3) := by decide +kernel
theorem dX4_gains_69 : decode cX4_gains 69 = .ok (.bipush 7, 2) := by decide +kernel
theorem dX4_gains_71 : decode cX4_gains 71 = .ok (.iload_n 3, 1) := by decide +kernel
theorem dX4_gains_72 : decode cX4_gains 72 = .ok (.iadd, 1) := by decide +kernel
theorem dX4_gains_73 : decode cX4_gains 73 = .ok (.dup2, 1) := by decide +kernel
theorem dX4_gains_74 : decode cX4_gains 74 = .ok (.iaload, 1) := by decide +kernel
theorem dX4_gains_75 : decode cX4_gains 75 = .ok (.iconst 1, 1) := by decide +kernel
theorem dX4_gains_76 : decode cX4_gains 76 = .ok (.iadd, 1) := by decide +kernel
theorem dX4_gains_77 : decode cX4_gains 77 = .ok (.iastore, 1) := by decide +kernel
theorem dX4_gains_78 : decode cX4_gains 78 = .ok (.iload_n 2, 1) := by decide +kernel
theorem dX4_gains_79 : decode cX4_gains 79 = .ok (.aload_n 0, 1) := by decide +kernel
theorem dX4_gains_80 : decode cX4_gains 80 = .ok (.iload_n 3, 1) := by decide +kernel
theorem dX4_gains_81 : decode cX4_gains 81 = .ok (.iload_n 1, 1) := by decide +kernel
theorem dX4_gains_82 : decode cX4_gains 82 = .ok (.invokevirtual 199, 3) := by decide +kernel
theorem dX4_gains_85 : decode cX4_gains 85 = .ok (.iload 4, 2) := by decide +kernel
theorem dX4_gains_87 : decode cX4_gains 87 = .ok (.if_icmp .le 9, 3) := by decide +kernel
theorem dX4_gains_90 : decode cX4_gains 90 = .ok (.iconst 1, 1) := by decide +kernel
theorem dX4_gains_91 : decode cX4_gains 91 = .ok (.iload_n 3, 1) := by decide +kernel
theorem dX4_gains_92 : decode cX4_gains 92 = .ok (.ishl, 1) := by decide +kernel
theorem dX4_gains_93 : decode cX4_gains 93 = .ok (.goto 4, 3) := by decide +kernel
theorem dX4_gains_96 : decode cX4_gains 96 = .ok (.iconst 0, 1) := by decide +kernel
theorem dX4_gains_97 : decode cX4_gains 97 = .ok (.ior, 1) := by decide +kernel
theorem dX4_gains_98 : decode cX4_gains 98 = .ok (.istore_n 2, 1) := by decide +kernel
theorem dX4_gains_99 : decode cX4_gains 99 = .ok (.iinc 3 1, 3) := by decide +kernel
theorem dX4_gains_102 : decode cX4_gains 102 = .ok (.goto (-74), 3) := by decide +kernel
theorem dX4_gains_105 : decode cX4_gains 105 = .ok (.iload_n 2, 1) := by decide +kernel
theorem dX4_gains_106 : decode cX4_gains 106 = .ok (.ireturn, 1) := by decide +kernel
theorem dX4_laysSoot_0 : decode cX4_laysSoot 0 = .ok (.aload_n 0, 1) := by decide +kernel
theorem dX4_laysSoot_1 : decode cX4_laysSoot 1 = .ok (.invokevirtual 191, 3) := by decide +kernel
theorem dX4_laysSoot_4 : decode cX4_laysSoot 4 = .ok (.iconst 0, 1) := by decide +kernel
theorem dX4_laysSoot_5 : decode cX4_laysSoot 5 = .ok (.istore_n 2, 1) := by decide +kernel
theorem dX4_laysSoot_6 : decode cX4_laysSoot 6 = .ok (.iload_n 1, 1) := by decide +kernel
theorem dX4_laysSoot_7 : decode cX4_laysSoot 7 = .ok (.istore_n 3, 1) := by decide +kernel
theorem dX4_laysSoot_8 : decode cX4_laysSoot 8 = .ok (.aload_n 0, 1) := by decide +kernel
theorem dX4_laysSoot_9 : decode cX4_laysSoot 9 = .ok (.getfield 136, 3) := by decide +kernel
theorem dX4_laysSoot_12 : decode cX4_laysSoot 12 = .ok (.iconst 1, 1) := by decide +kernel
theorem dX4_laysSoot_13 : decode cX4_laysSoot 13 = .ok (.isub, 1) := by decide +kernel
theorem dX4_laysSoot_14 : decode cX4_laysSoot 14 = .ok (.istore 4, 2) := by decide +kernel
theorem dX4_laysSoot_16 : decode cX4_laysSoot 16 = .ok (.iload 4, 2) := by decide +kernel
theorem dX4_laysSoot_18 : decode cX4_laysSoot 18 = .ok (.ifCond .lt 57, 3) := by decide +kernel
theorem dX4_laysSoot_21 : decode cX4_laysSoot 21 = .ok (.aload_n 0, 1) := by decide +kernel
theorem dX4_laysSoot_22 : decode cX4_laysSoot 22 = .ok (.getfield 41, 3) := by decide +kernel
theorem dX4_laysSoot_25 : decode cX4_laysSoot 25 = .ok (.bipush 7, 2) := by decide +kernel
theorem dX4_laysSoot_27 : decode cX4_laysSoot 27 = .ok (.iload 4, 2) := by decide +kernel
theorem dX4_laysSoot_29 : decode cX4_laysSoot 29 = .ok (.iadd, 1) := by decide +kernel
theorem dX4_laysSoot_30 : decode cX4_laysSoot 30 = .ok (.iload_n 3, 1) := by decide +kernel
theorem dX4_laysSoot_31 : decode cX4_laysSoot 31 = .ok (.iconst 4, 1) := by decide +kernel
theorem dX4_laysSoot_32 : decode cX4_laysSoot 32 = .ok (.irem, 1) := by decide +kernel
theorem dX4_laysSoot_33 : decode cX4_laysSoot 33 = .ok (.iastore, 1) := by decide +kernel
theorem dX4_laysSoot_34 : decode cX4_laysSoot 34 = .ok (.iload_n 3, 1) := by decide +kernel
theorem dX4_laysSoot_35 : decode cX4_laysSoot 35 = .ok (.iconst 4, 1) := by decide +kernel
theorem dX4_laysSoot_36 : decode cX4_laysSoot 36 = .ok (.idiv, 1) := by decide +kernel
theorem dX4_laysSoot_37 : decode cX4_laysSoot 37 = .ok (.istore_n 3, 1) := by decide +kernel
theorem dX4_laysSoot_38 : decode cX4_laysSoot 38 = .ok (.iload_n 2, 1) := by decide +kernel
theorem dX4_laysSoot_39 : decode cX4_laysSoot 39 = .ok (.aload_n 0, 1) := by decide +kernel
theorem dX4_laysSoot_40 : decode cX4_laysSoot 40 = .ok (.getfield 41, 3) := by decide +kernel
theorem dX4_laysSoot_43 : decode cX4_laysSoot 43 = .ok (.bipush 7, 2) := by decide +kernel
theorem dX4_laysSoot_45 : decode cX4_laysSoot 45 = .ok (.iload 4, 2) := by decide +kernel
theorem dX4_laysSoot_47 : decode cX4_laysSoot 47 = .ok (.iadd, 1) := by decide +kernel
theorem dX4_laysSoot_48 : decode cX4_laysSoot 48 = .ok (.iaload, 1) := by decide +kernel
theorem dX4_laysSoot_49 : decode cX4_laysSoot 49 = .ok (.aload_n 0, 1) := by decide +kernel
theorem dX4_laysSoot_50 : decode cX4_laysSoot 50 = .ok (.getfield 38, 3) := by decide +kernel
theorem dX4_laysSoot_53 : decode cX4_laysSoot 53 = .ok (.bipush 7, 2) := by decide +kernel
theorem dX4_laysSoot_55 : decode cX4_laysSoot 55 = .ok (.iload 4, 2) := by decide +kernel
theorem dX4_laysSoot_57 : decode cX4_laysSoot 57 = .ok (.iadd, 1) := by decide +kernel
theorem dX4_laysSoot_58 : decode cX4_laysSoot 58 = .ok (.iaload, 1) := by decide +kernel
theorem dX4_laysSoot_59 : decode cX4_laysSoot 59 = .ok (.if_icmp .ne 7, 3) := by decide +kernel
theorem dX4_laysSoot_62 : decode cX4_laysSoot 62 = .ok (.iconst 0, 1) := by decide +kernel
theorem dX4_laysSoot_63 : decode cX4_laysSoot 63 = .ok (.goto 4, 3) := by decide +kernel
theorem dX4_laysSoot_66 : decode cX4_laysSoot 66 = .ok (.iconst 1, 1) := by decide +kernel
theorem dX4_laysSoot_67 : decode cX4_laysSoot 67 = .ok (.iadd, 1) := by decide +kernel
theorem dX4_laysSoot_68 : decode cX4_laysSoot 68 = .ok (.istore_n 2, 1) := by decide +kernel
theorem dX4_laysSoot_69 : decode cX4_laysSoot 69 = .ok (.iinc 4 (-1), 3) := by decide +kernel
theorem dX4_laysSoot_72 : decode cX4_laysSoot 72 = .ok (.goto (-56), 3) := by decide +kernel
theorem dX4_laysSoot_75 : decode cX4_laysSoot 75 = .ok (.iload_n 2, 1) := by decide +kernel
theorem dX4_laysSoot_76 : decode cX4_laysSoot 76 = .ok (.ireturn, 1) := by decide +kernel
theorem dX4_even_0 : decode cX4_even 0 = .ok (.aload_n 0, 1) := by decide +kernel
theorem dX4_even_1 : decode cX4_even 1 = .ok (.iload_n 1, 1) := by decide +kernel
theorem dX4_even_2 : decode cX4_even 2 = .ok (.invokevirtual 157, 3) := by decide +kernel
theorem dX4_even_5 : decode cX4_even 5 = .ok (.ifCond .eq 36, 3) := by decide +kernel
theorem dX4_even_8 : decode cX4_even 8 = .ok (.aload_n 0, 1) := by decide +kernel
theorem dX4_even_9 : decode cX4_even 9 = .ok (.iload_n 2, 1) := by decide +kernel
theorem dX4_even_10 : decode cX4_even 10 = .ok (.invokevirtual 157, 3) := by decide +kernel
theorem dX4_even_13 : decode cX4_even 13 = .ok (.ifCond .eq 28, 3) := by decide +kernel
theorem dX4_even_16 : decode cX4_even 16 = .ok (.iload_n 1, 1) := by decide +kernel
theorem dX4_even_17 : decode cX4_even 17 = .ok (.iload_n 2, 1) := by decide +kernel
theorem dX4_even_18 : decode cX4_even 18 = .ok (.if_icmp .eq 23, 3) := by decide +kernel
theorem dX4_even_21 : decode cX4_even 21 = .ok (.iload_n 3, 1) := by decide +kernel
theorem dX4_even_22 : decode cX4_even 22 = .ok (.i2l, 1) := by decide +kernel
theorem dX4_even_23 : decode cX4_even 23 = .ok (.lconst 0, 1) := by decide +kernel
theorem dX4_even_24 : decode cX4_even 24 = .ok (.ldc2_w 202, 3) := by decide +kernel
theorem dX4_even_27 : decode cX4_even 27 = .ok (.invokestatic 74, 3) := by decide +kernel
theorem dX4_even_30 : decode cX4_even 30 = .ok (.ifCond .eq 11, 3) := by decide +kernel
theorem dX4_even_33 : decode cX4_even 33 = .ok (.iload 4, 2) := by decide +kernel
theorem dX4_even_35 : decode cX4_even 35 = .ok (.invokestatic 80, 3) := by decide +kernel
theorem dX4_even_38 : decode cX4_even 38 = .ok (.ifCond .ne 5, 3) := by decide +kernel
theorem dX4_even_41 : decode cX4_even 41 = .ok (.iconst (-1), 1) := by decide +kernel
theorem dX4_even_42 : decode cX4_even 42 = .ok (.ireturn, 1) := by decide +kernel
theorem dX4_even_43 : decode cX4_even 43 = .ok (.bipush (-9), 2) := by decide +kernel
theorem dX4_even_45 : decode cX4_even 45 = .ok (.istore 5, 2) := by decide +kernel
theorem dX4_even_47 : decode cX4_even 47 = .ok (.ldc 204, 2) := by decide +kernel
theorem dX4_even_49 : decode cX4_even 49 = .ok (.istore 6, 2) := by decide +kernel
theorem dX4_even_51 : decode cX4_even 51 = .ok (.iconst 0, 1) := by decide +kernel
theorem dX4_even_52 : decode cX4_even 52 = .ok (.istore 7, 2) := by decide +kernel
theorem dX4_even_54 : decode cX4_even 54 = .ok (.iload 7, 2) := by decide +kernel
theorem dX4_even_56 : decode cX4_even 56 = .ok (.iconst 1, 1) := by decide +kernel
theorem dX4_even_57 : decode cX4_even 57 = .ok (.iconst 2, 1) := by decide +kernel
theorem dX4_even_58 : decode cX4_even 58 = .ok (.aload_n 0, 1) := by decide +kernel
theorem dX4_even_59 : decode cX4_even 59 = .ok (.getfield 136, 3) := by decide +kernel
theorem dX4_even_62 : decode cX4_even 62 = .ok (.imul, 1) := by decide +kernel
theorem dX4_even_63 : decode cX4_even 63 = .ok (.ishl, 1) := by decide +kernel
theorem dX4_even_64 : decode cX4_even 64 = .ok (.if_icmp .ge 85, 3) := by decide +kernel
theorem dX4_even_67 : decode cX4_even 67 = .ok (.aload_n 0, 1) := by decide +kernel
theorem dX4_even_68 : decode cX4_even 68 = .ok (.iload 7, 2) := by decide +kernel
theorem dX4_even_70 : decode cX4_even 70 = .ok (.invokevirtual 205, 3) := by decide +kernel
theorem dX4_even_73 : decode cX4_even 73 = .ok (.istore 8, 2) := by decide +kernel
theorem dX4_even_75 : decode cX4_even 75 = .ok (.iload 8, 2) := by decide +kernel
theorem dX4_even_77 : decode cX4_even 77 = .ok (.iload 6, 2) := by decide +kernel
theorem dX4_even_79 : decode cX4_even 79 = .ok (.if_icmp .ge 64, 3) := by decide +kernel
theorem dX4_even_82 : decode cX4_even 82 = .ok (.aload_n 0, 1) := by decide +kernel
theorem dX4_even_83 : decode cX4_even 83 = .ok (.iload_n 3, 1) := by decide +kernel
theorem dX4_even_84 : decode cX4_even 84 = .ok (.invokevirtual 194, 3) := by decide +kernel
theorem dX4_even_87 : decode cX4_even 87 = .ok (.istore 9, 2) := by decide +kernel
theorem dX4_even_89 : decode cX4_even 89 = .ok (.aload_n 0, 1) := by decide +kernel
theorem dX4_even_90 : decode cX4_even 90 = .ok (.getfield 41, 3) := by decide +kernel
theorem dX4_even_93 : decode cX4_even 93 = .ok (.iconst 1, 1) := by decide +kernel
theorem dX4_even_94 : decode cX4_even 94 = .ok (.iload_n 1, 1) := by decide +kernel
theorem dX4_even_95 : decode cX4_even 95 = .ok (.iadd, 1) := by decide +kernel
theorem dX4_even_96 : decode cX4_even 96 = .ok (.iaload, 1) := by decide +kernel
theorem dX4_even_97 : decode cX4_even 97 = .ok (.aload_n 0, 1) := by decide +kernel
theorem dX4_even_98 : decode cX4_even 98 = .ok (.getfield 41, 3) := by decide +kernel
theorem dX4_even_101 : decode cX4_even 101 = .ok (.iconst 1, 1) := by decide +kernel
theorem dX4_even_102 : decode cX4_even 102 = .ok (.iload_n 2, 1) := by decide +kernel
theorem dX4_even_103 : decode cX4_even 103 = .ok (.iadd, 1) := by decide +kernel
theorem dX4_even_104 : decode cX4_even 104 = .ok (.iaload, 1) := by decide +kernel
theorem dX4_even_105 : decode cX4_even 105 = .ok (.if_icmp .ne 7, 3) := by decide +kernel
theorem dX4_even_108 : decode cX4_even 108 = .ok (.iconst 1, 1) := by decide +kernel
theorem dX4_even_109 : decode cX4_even 109 = .ok (.goto 4, 3) := by decide +kernel
theorem dX4_even_112 : decode cX4_even 112 = .ok (.iconst 0, 1) := by decide +kernel
theorem dX4_even_113 : decode cX4_even 113 = .ok (.istore 10, 2) := by decide +kernel
theorem dX4_even_115 : decode cX4_even 115 = .ok (.iload 10, 2) := by decide +kernel
theorem dX4_even_117 : decode cX4_even 117 = .ok (.ifCond .eq 8, 3) := by decide +kernel
theorem dX4_even_120 : decode cX4_even 120 = .ok (.iload 7, 2) := by decide +kernel
theorem dX4_even_122 : decode cX4_even 122 = .ok (.goto 5, 3) := by decide +kernel
theorem dX4_even_125 : decode cX4_even 125 = .ok (.iload 5, 2) := by decide +kernel
theorem dX4_even_127 : decode cX4_even 127 = .ok (.istore 5, 2) := by decide +kernel
theorem dX4_even_129 : decode cX4_even 129 = .ok (.iload 10, 2) := by decide +kernel
theorem dX4_even_131 : decode cX4_even 131 = .ok (.ifCond .eq 8, 3) := by decide +kernel
theorem dX4_even_134 : decode cX4_even 134 = .ok (.iload 8, 2) := by decide +kernel
theorem dX4_even_136 : decode cX4_even 136 = .ok (.goto 5, 3) := by decide +kernel
theorem dX4_even_139 : decode cX4_even 139 = .ok (.iload 6, 2) := by decide +kernel
theorem dX4_even_141 : decode cX4_even 141 = .ok (.istore 6, 2) := by decide +kernel
theorem dX4_even_143 : decode cX4_even 143 = .ok (.iinc 7 1, 3) := by decide +kernel
theorem dX4_even_146 : decode cX4_even 146 = .ok (.goto (-92), 3) := by decide +kernel
theorem dX4_even_149 : decode cX4_even 149 = .ok (.iload 5, 2) := by decide +kernel
theorem dX4_even_151 : decode cX4_even 151 = .ok (.bipush (-9), 2) := by decide +kernel
theorem dX4_even_153 : decode cX4_even 153 = .ok (.if_icmp .ne 6, 3) := by decide +kernel
theorem dX4_even_156 : decode cX4_even 156 = .ok (.bipush (-9), 2) := by decide +kernel
theorem dX4_even_158 : decode cX4_even 158 = .ok (.ireturn, 1) := by decide +kernel
theorem dX4_even_159 : decode cX4_even 159 = .ok (.aload_n 0, 1) := by decide +kernel
theorem dX4_even_160 : decode cX4_even 160 = .ok (.iload 4, 2) := by decide +kernel
theorem dX4_even_162 : decode cX4_even 162 = .ok (.aload_n 0, 1) := by decide +kernel
theorem dX4_even_163 : decode cX4_even 163 = .ok (.getfield 136, 3) := by decide +kernel
theorem dX4_even_166 : decode cX4_even 166 = .ok (.invokevirtual 208, 3) := by decide +kernel
theorem dX4_even_169 : decode cX4_even 169 = .ok (.istore 7, 2) := by decide +kernel
theorem dX4_even_171 : decode cX4_even 171 = .ok (.aload_n 0, 1) := by decide +kernel
theorem dX4_even_172 : decode cX4_even 172 = .ok (.iload 5, 2) := by decide +kernel
theorem dX4_even_174 : decode cX4_even 174 = .ok (.invokevirtual 205, 3) := by decide +kernel
theorem dX4_even_177 : decode cX4_even 177 = .ok (.istore 8, 2) := by decide +kernel
theorem dX4_even_179 : decode cX4_even 179 = .ok (.iconst 0, 1) := by decide +kernel
theorem dX4_even_180 : decode cX4_even 180 = .ok (.istore 9, 2) := by decide +kernel
theorem dX4_even_182 : decode cX4_even 182 = .ok (.iload 9, 2) := by decide +kernel
theorem dX4_even_184 : decode cX4_even 184 = .ok (.aload_n 0, 1) := by decide +kernel
theorem dX4_even_185 : decode cX4_even 185 = .ok (.getfield 136, 3) := by decide +kernel
theorem dX4_even_188 : decode cX4_even 188 = .ok (.if_icmp .ge 32, 3) := by decide +kernel
theorem dX4_even_191 : decode cX4_even 191 = .ok (.aload_n 0, 1) := by decide +kernel
theorem dX4_even_192 : decode cX4_even 192 = .ok (.getfield 7, 3) := by decide +kernel
theorem dX4_even_195 : decode cX4_even 195 = .ok (.bipush 40, 2) := by decide +kernel
theorem dX4_even_197 : decode cX4_even 197 = .ok (.iload 4, 2) := by decide +kernel
theorem dX4_even_199 : decode cX4_even 199 = .ok (.imul, 1) := by decide +kernel
theorem dX4_even_200 : decode cX4_even 200 = .ok (.iload 9, 2) := by decide +kernel
theorem dX4_even_202 : decode cX4_even 202 = .ok (.iadd, 1) := by decide +kernel
theorem dX4_even_203 : decode cX4_even 203 = .ok (.aload_n 0, 1) := by decide +kernel
theorem dX4_even_204 : decode cX4_even 204 = .ok (.getfield 41, 3) := by decide +kernel
theorem dX4_even_207 : decode cX4_even 207 = .ok (.bipush 7, 2) := by decide +kernel
theorem dX4_even_209 : decode cX4_even 209 = .ok (.iload 9, 2) := by decide +kernel
theorem dX4_even_211 : decode cX4_even 211 = .ok (.iadd, 1) := by decide +kernel
theorem dX4_even_212 : decode cX4_even 212 = .ok (.iaload, 1) := by decide +kernel
theorem dX4_even_213 : decode cX4_even 213 = .ok (.iastore, 1) := by decide +kernel
theorem dX4_even_214 : decode cX4_even 214 = .ok (.iinc 9 1, 3) := by decide +kernel
theorem dX4_even_217 : decode cX4_even 217 = .ok (.goto (-35), 3) := by decide +kernel
theorem dX4_even_220 : decode cX4_even 220 = .ok (.iload 6, 2) := by decide +kernel
theorem dX4_even_222 : decode cX4_even 222 = .ok (.ireturn, 1) := by decide +kernel
theorem dX4_changes_0 : decode cX4_changes 0 = .ok (.aload_n 0, 1) := by decide +kernel
theorem dX4_changes_1 : decode cX4_changes 1 = .ok (.getfield 32, 3) := by decide +kernel
theorem dX4_changes_4 : decode cX4_changes 4 = .ok (.iload_n 1, 1) := by decide +kernel
theorem dX4_changes_5 : decode cX4_changes 5 = .ok (.iaload, 1) := by decide +kernel
theorem dX4_changes_6 : decode cX4_changes 6 = .ok (.istore_n 3, 1) := by decide +kernel
theorem dX4_changes_7 : decode cX4_changes 7 = .ok (.aload_n 0, 1) := by decide +kernel
theorem dX4_changes_8 : decode cX4_changes 8 = .ok (.getfield 32, 3) := by decide +kernel
theorem dX4_changes_11 : decode cX4_changes 11 = .ok (.iload_n 1, 1) := by decide +kernel
theorem dX4_changes_12 : decode cX4_changes 12 = .ok (.aload_n 0, 1) := by decide +kernel
theorem dX4_changes_13 : decode cX4_changes 13 = .ok (.getfield 32, 3) := by decide +kernel
theorem dX4_changes_16 : decode cX4_changes 16 = .ok (.iload_n 2, 1) := by decide +kernel
theorem dX4_changes_17 : decode cX4_changes 17 = .ok (.iaload, 1) := by decide +kernel
theorem dX4_changes_18 : decode cX4_changes 18 = .ok (.iastore, 1) := by decide +kernel
theorem dX4_changes_19 : decode cX4_changes 19 = .ok (.aload_n 0, 1) := by decide +kernel
theorem dX4_changes_20 : decode cX4_changes 20 = .ok (.getfield 32, 3) := by decide +kernel
theorem dX4_changes_23 : decode cX4_changes 23 = .ok (.iload_n 2, 1) := by decide +kernel
theorem dX4_changes_24 : decode cX4_changes 24 = .ok (.iload_n 3, 1) := by decide +kernel
theorem dX4_changes_25 : decode cX4_changes 25 = .ok (.iastore, 1) := by decide +kernel
theorem dX4_changes_26 : decode cX4_changes 26 = .ok (.return_, 1) := by decide +kernel
theorem dX4_change_0 : decode cX4_change 0 = .ok (.iload_n 1, 1) := by decide +kernel
theorem dX4_change_1 : decode cX4_change 1 = .ok (.i2l, 1) := by decide +kernel
theorem dX4_change_2 : decode cX4_change 2 = .ok (.lconst 1, 1) := by decide +kernel
theorem dX4_change_3 : decode cX4_change 3 = .ok (.ldc2_w 202, 3) := by decide +kernel
theorem dX4_change_6 : decode cX4_change 6 = .ok (.invokestatic 74, 3) := by decide +kernel
theorem dX4_change_9 : decode cX4_change 9 = .ok (.ifCond .ne 5, 3) := by decide +kernel
theorem dX4_change_12 : decode cX4_change 12 = .ok (.iconst (-1), 1) := by decide +kernel
theorem dX4_change_13 : decode cX4_change 13 = .ok (.ireturn, 1) := by decide +kernel
theorem dX4_change_14 : decode cX4_change 14 = .ok (.aload_n 0, 1) := by decide +kernel
theorem dX4_change_15 : decode cX4_change 15 = .ok (.getfield 136, 3) := by decide +kernel
theorem dX4_change_18 : decode cX4_change 18 = .ok (.ifCond .ne 6, 3) := by decide +kernel
theorem dX4_change_21 : decode cX4_change 21 = .ok (.bipush (-4), 2) := by decide +kernel
theorem dX4_change_23 : decode cX4_change 23 = .ok (.ireturn, 1) := by decide +kernel
theorem dX4_change_24 : decode cX4_change 24 = .ok (.aload_n 0, 1) := by decide +kernel
theorem dX4_change_25 : decode cX4_change 25 = .ok (.invokevirtual 191, 3) := by decide +kernel
theorem dX4_change_28 : decode cX4_change 28 = .ok (.aload_n 0, 1) := by decide +kernel
theorem dX4_change_29 : decode cX4_change 29 = .ok (.iload_n 1, 1) := by decide +kernel
theorem dX4_change_30 : decode cX4_change 30 = .ok (.invokevirtual 194, 3) := by decide +kernel
theorem dX4_change_33 : decode cX4_change 33 = .ok (.istore_n 2, 1) := by decide +kernel
theorem dX4_change_34 : decode cX4_change 34 = .ok (.bipush (-9), 2) := by decide +kernel
theorem dX4_change_36 : decode cX4_change 36 = .ok (.istore_n 3, 1) := by decide +kernel
theorem dX4_change_37 : decode cX4_change 37 = .ok (.iconst 0, 1) := by decide +kernel
theorem dX4_change_38 : decode cX4_change 38 = .ok (.istore 4, 2) := by decide +kernel
theorem dX4_change_40 : decode cX4_change 40 = .ok (.iload 4, 2) := by decide +kernel
theorem dX4_change_42 : decode cX4_change 42 = .ok (.aload_n 0, 1) := by decide +kernel
theorem dX4_change_43 : decode cX4_change 43 = .ok (.getfield 136, 3) := by decide +kernel
theorem dX4_change_46 : decode cX4_change 46 = .ok (.if_icmp .ge 83, 3) := by decide +kernel
theorem dX4_change_49 : decode cX4_change 49 = .ok (.iload 4, 2) := by decide +kernel
theorem dX4_change_51 : decode cX4_change 51 = .ok (.iconst 1, 1) := by decide +kernel
theorem dX4_change_52 : decode cX4_change 52 = .ok (.iadd, 1) := by decide +kernel
theorem dX4_change_53 : decode cX4_change 53 = .ok (.istore 5, 2) := by decide +kernel
theorem dX4_change_55 : decode cX4_change 55 = .ok (.iload 5, 2) := by decide +kernel
theorem dX4_change_57 : decode cX4_change 57 = .ok (.aload_n 0, 1) := by decide +kernel
theorem dX4_change_58 : decode cX4_change 58 = .ok (.getfield 136, 3) := by decide +kernel
theorem dX4_change_61 : decode cX4_change 61 = .ok (.if_icmp .ge 62, 3) := by decide +kernel
theorem dX4_change_64 : decode cX4_change 64 = .ok (.aload_n 0, 1) := by decide +kernel
theorem dX4_change_65 : decode cX4_change 65 = .ok (.iload 4, 2) := by decide +kernel
theorem dX4_change_67 : decode cX4_change 67 = .ok (.iload 5, 2) := by decide +kernel
theorem dX4_change_69 : decode cX4_change 69 = .ok (.invokevirtual 211, 3) := by decide +kernel
theorem dX4_change_72 : decode cX4_change 72 = .ok (.aload_n 0, 1) := by decide +kernel
theorem dX4_change_73 : decode cX4_change 73 = .ok (.invokevirtual 191, 3) := by decide +kernel
theorem dX4_change_76 : decode cX4_change 76 = .ok (.aload_n 0, 1) := by decide +kernel
theorem dX4_change_77 : decode cX4_change 77 = .ok (.iload_n 1, 1) := by decide +kernel
theorem dX4_change_78 : decode cX4_change 78 = .ok (.invokevirtual 194, 3) := by decide +kernel
theorem dX4_change_81 : decode cX4_change 81 = .ok (.istore 6, 2) := by decide +kernel
theorem dX4_change_83 : decode cX4_change 83 = .ok (.aload_n 0, 1) := by decide +kernel
theorem dX4_change_84 : decode cX4_change 84 = .ok (.iload 4, 2) := by decide +kernel
theorem dX4_change_86 : decode cX4_change 86 = .ok (.iload 5, 2) := by decide +kernel
theorem dX4_change_88 : decode cX4_change 88 = .ok (.invokevirtual 211, 3) := by decide +kernel
theorem dX4_change_91 : decode cX4_change 91 = .ok (.iload 6, 2) := by decide +kernel
theorem dX4_change_93 : decode cX4_change 93 = .ok (.iload_n 2, 1) := by decide +kernel
theorem dX4_change_94 : decode cX4_change 94 = .ok (.if_icmp .ge 14, 3) := by decide +kernel
theorem dX4_change_97 : decode cX4_change 97 = .ok (.bipush 10, 2) := by decide +kernel
theorem dX4_change_99 : decode cX4_change 99 = .ok (.iload 4, 2) := by decide +kernel
theorem dX4_change_101 : decode cX4_change 101 = .ok (.imul, 1) := by decide +kernel
theorem dX4_change_102 : decode cX4_change 102 = .ok (.iload 5, 2) := by decide +kernel
theorem dX4_change_104 : decode cX4_change 104 = .ok (.iadd, 1) := by decide +kernel
theorem dX4_change_105 : decode cX4_change 105 = .ok (.goto 4, 3) := by decide +kernel
theorem dX4_change_108 : decode cX4_change 108 = .ok (.iload_n 3, 1) := by decide +kernel
theorem dX4_change_109 : decode cX4_change 109 = .ok (.istore_n 3, 1) := by decide +kernel
theorem dX4_change_110 : decode cX4_change 110 = .ok (.iload 6, 2) := by decide +kernel
theorem dX4_change_112 : decode cX4_change 112 = .ok (.iload_n 2, 1) := by decide +kernel
theorem dX4_change_113 : decode cX4_change 113 = .ok (.invokestatic 143, 3) := by decide +kernel
theorem dX4_change_116 : decode cX4_change 116 = .ok (.istore_n 2, 1) := by decide +kernel
theorem dX4_change_117 : decode cX4_change 117 = .ok (.iinc 5 1, 3) := by decide +kernel
theorem dX4_change_120 : decode cX4_change 120 = .ok (.goto (-65), 3) := by decide +kernel
theorem dX4_change_123 : decode cX4_change 123 = .ok (.iinc 4 1, 3) := by decide +kernel
theorem dX4_change_126 : decode cX4_change 126 = .ok (.goto (-86), 3) := by decide +kernel
theorem dX4_change_129 : decode cX4_change 129 = .ok (.iload_n 3, 1) := by decide +kernel
theorem dX4_change_130 : decode cX4_change 130 = .ok (.bipush (-9), 2) := by decide +kernel
theorem dX4_change_132 : decode cX4_change 132 = .ok (.if_icmp .ne 8, 3) := by decide +kernel
theorem dX4_change_135 : decode cX4_change 135 = .ok (.bipush (-9), 2) := by decide +kernel
theorem dX4_change_137 : decode cX4_change 137 = .ok (.goto 9, 3) := by decide +kernel
theorem dX4_change_140 : decode cX4_change 140 = .ok (.aload_n 0, 1) := by decide +kernel
theorem dX4_change_141 : decode cX4_change 141 = .ok (.iload_n 3, 1) := by decide +kernel
theorem dX4_change_142 : decode cX4_change 142 = .ok (.iload_n 2, 1) := by decide +kernel
theorem dX4_change_143 : decode cX4_change 143 = .ok (.invokevirtual 186, 3) := by decide +kernel
theorem dX4_change_146 : decode cX4_change 146 = .ok (.ireturn, 1) := by decide +kernel
theorem dX4_refusesPairs_0 : decode cX4_refusesPairs 0 = .ok (.aload_n 0, 1) := by decide +kernel
theorem dX4_refusesPairs_1 : decode cX4_refusesPairs 1 = .ok (.getfield 13, 3) := by decide +kernel
theorem dX4_refusesPairs_4 : decode cX4_refusesPairs 4 = .ok (.iload_n 1, 1) := by decide +kernel
theorem dX4_refusesPairs_5 : decode cX4_refusesPairs 5 = .ok (.iaload, 1) := by decide +kernel
theorem dX4_refusesPairs_6 : decode cX4_refusesPairs 6 = .ok (.ifCond .ge 9, 3) := by decide +kernel
theorem dX4_refusesPairs_9 : decode cX4_refusesPairs 9 = .ok (.aload_n 0, 1) := by decide +kernel
theorem dX4_refusesPairs_10 : decode cX4_refusesPairs 10 = .ok (.iconst 1, 1) := by decide +kernel
theorem dX4_refusesPairs_11 : decode cX4_refusesPairs 11 = .ok (.invokevirtual 84, 3) := by decide +kernel
theorem dX4_refusesPairs_14 : decode cX4_refusesPairs 14 = .ok (.ireturn, 1) := by decide +kernel
theorem dX4_refusesPairs_15 : decode cX4_refusesPairs 15 = .ok (.aload_n 0, 1) := by decide +kernel
theorem dX4_refusesPairs_16 : decode cX4_refusesPairs 16 = .ok (.getfield 13, 3) := by decide +kernel
theorem dX4_refusesPairs_19 : decode cX4_refusesPairs 19 = .ok (.iload_n 1, 1) := by decide +kernel
theorem dX4_refusesPairs_20 : decode cX4_refusesPairs 20 = .ok (.iaload, 1) := by decide +kernel
theorem dX4_refusesPairs_21 : decode cX4_refusesPairs 21 = .ok (.iconst 2, 1) := by decide +kernel
theorem dX4_refusesPairs_22 : decode cX4_refusesPairs 22 = .ok (.irem, 1) := by decide +kernel
theorem dX4_refusesPairs_23 : decode cX4_refusesPairs 23 = .ok (.iconst 1, 1) := by decide +kernel
theorem dX4_refusesPairs_24 : decode cX4_refusesPairs 24 = .ok (.if_icmp .ne 9, 3) := by decide +kernel
theorem dX4_refusesPairs_27 : decode cX4_refusesPairs 27 = .ok (.aload_n 0, 1) := by decide +kernel
theorem dX4_refusesPairs_28 : decode cX4_refusesPairs 28 = .ok (.iconst 5, 1) := by decide +kernel
theorem dX4_refusesPairs_29 : decode cX4_refusesPairs 29 = .ok (.invokevirtual 84, 3) := by decide +kernel
theorem dX4_refusesPairs_32 : decode cX4_refusesPairs 32 = .ok (.ireturn, 1) := by decide +kernel
theorem dX4_refusesPairs_33 : decode cX4_refusesPairs 33 = .ok (.iconst 0, 1) := by decide +kernel
theorem dX4_refusesPairs_34 : decode cX4_refusesPairs 34 = .ok (.istore_n 2, 1) := by decide +kernel
theorem dX4_refusesPairs_35 : decode cX4_refusesPairs 35 = .ok (.iload_n 2, 1) := by decide +kernel
theorem dX4_refusesPairs_36 : decode cX4_refusesPairs 36 = .ok (.aload_n 0, 1) := by decide +kernel
theorem dX4_refusesPairs_37 : decode cX4_refusesPairs 37 = .ok (.getfield 13, 3) := by decide +kernel
theorem dX4_refusesPairs_40 : decode cX4_refusesPairs 40 = .ok (.iload_n 1, 1) := by decide +kernel
theorem dX4_refusesPairs_41 : decode cX4_refusesPairs 41 = .ok (.iaload, 1) := by decide +kernel
theorem dX4_refusesPairs_42 : decode cX4_refusesPairs 42 = .ok (.if_icmp .ge 61, 3) := by decide +kernel
theorem dX4_refusesPairs_45 : decode cX4_refusesPairs 45 = .ok (.aload_n 0, 1) := by decide +kernel
theorem dX4_refusesPairs_46 : decode cX4_refusesPairs 46 = .ok (.getfield 7, 3) := by decide +kernel
theorem dX4_refusesPairs_49 : decode cX4_refusesPairs 49 = .ok (.bipush 40, 2) := by decide +kernel
theorem dX4_refusesPairs_51 : decode cX4_refusesPairs 51 = .ok (.iload_n 1, 1) := by decide +kernel
theorem dX4_refusesPairs_52 : decode cX4_refusesPairs 52 = .ok (.imul, 1) := by decide +kernel
theorem dX4_refusesPairs_53 : decode cX4_refusesPairs 53 = .ok (.iload_n 2, 1) := by decide +kernel
theorem dX4_refusesPairs_54 : decode cX4_refusesPairs 54 = .ok (.iadd, 1) := by decide +kernel
theorem dX4_refusesPairs_55 : decode cX4_refusesPairs 55 = .ok (.iaload, 1) := by decide +kernel
theorem dX4_refusesPairs_56 : decode cX4_refusesPairs 56 = .ok (.i2l, 1) := by decide +kernel
theorem dX4_refusesPairs_57 : decode cX4_refusesPairs 57 = .ok (.lconst 0, 1) := by decide +kernel
theorem dX4_refusesPairs_58 : decode cX4_refusesPairs 58 = .ok (.ldc2_w 172, 3) := by decide +kernel
theorem dX4_refusesPairs_61 : decode cX4_refusesPairs 61 = .ok (.invokestatic 74, 3) := by decide +kernel
theorem dX4_refusesPairs_64 : decode cX4_refusesPairs 64 = .ok (.ifCond .eq 27, 3) := by decide +kernel
theorem dX4_refusesPairs_67 : decode cX4_refusesPairs 67 = .ok (.aload_n 0, 1) := by decide +kernel
theorem dX4_refusesPairs_68 : decode cX4_refusesPairs 68 = .ok (.getfield 7, 3) := by decide +kernel
theorem dX4_refusesPairs_71 : decode cX4_refusesPairs 71 = .ok (.bipush 40, 2) := by decide +kernel
theorem dX4_refusesPairs_73 : decode cX4_refusesPairs 73 = .ok (.iload_n 1, 1) := by decide +kernel
theorem dX4_refusesPairs_74 : decode cX4_refusesPairs 74 = .ok (.imul, 1) := by decide +kernel
theorem dX4_refusesPairs_75 : decode cX4_refusesPairs 75 = .ok (.iload_n 2, 1) := by decide +kernel
theorem dX4_refusesPairs_76 : decode cX4_refusesPairs 76 = .ok (.iadd, 1) := by decide +kernel
theorem dX4_refusesPairs_77 : decode cX4_refusesPairs 77 = .ok (.iconst 1, 1) := by decide +kernel
theorem dX4_refusesPairs_78 : decode cX4_refusesPairs 78 = .ok (.iadd, 1) := by decide +kernel
theorem dX4_refusesPairs_79 : decode cX4_refusesPairs 79 = .ok (.iaload, 1) := by decide +kernel
theorem dX4_refusesPairs_80 : decode cX4_refusesPairs 80 = .ok (.i2l, 1) := by decide +kernel
theorem dX4_refusesPairs_81 : decode cX4_refusesPairs 81 = .ok (.lconst 0, 1) := by decide +kernel
theorem dX4_refusesPairs_82 : decode cX4_refusesPairs 82 = .ok (.ldc2_w 215, 3) := by decide +kernel
theorem dX4_refusesPairs_85 : decode cX4_refusesPairs 85 = .ok (.invokestatic 74, 3) := by decide +kernel
theorem dX4_refusesPairs_88 : decode cX4_refusesPairs 88 = .ok (.ifCond .ne 9, 3) := by decide +kernel
theorem dX4_refusesPairs_91 : decode cX4_refusesPairs 91 = .ok (.aload_n 0, 1) := by decide +kernel
theorem dX4_refusesPairs_92 : decode cX4_refusesPairs 92 = .ok (.iconst 3, 1) := by decide +kernel
theorem dX4_refusesPairs_93 : decode cX4_refusesPairs 93 = .ok (.invokevirtual 84, 3) := by decide +kernel
theorem dX4_refusesPairs_96 : decode cX4_refusesPairs 96 = .ok (.ireturn, 1) := by decide +kernel
theorem dX4_refusesPairs_97 : decode cX4_refusesPairs 97 = .ok (.iinc 2 2, 3) := by decide +kernel
theorem dX4_refusesPairs_100 : decode cX4_refusesPairs 100 = .ok (.goto (-65), 3) := by decide +kernel
theorem dX4_refusesPairs_103 : decode cX4_refusesPairs 103 = .ok (.iconst 0, 1) := by decide +kernel
theorem dX4_refusesPairs_104 : decode cX4_refusesPairs 104 = .ok (.ireturn, 1) := by decide +kernel
theorem dX4_isSo_0 : decode cX4_isSo 0 = .ok (.iconst 1, 1) := by decide +kernel
theorem dX4_isSo_1 : decode cX4_isSo 1 = .ok (.istore 5, 2) := by decide +kernel
theorem dX4_isSo_3 : decode cX4_isSo 3 = .ok (.iconst 0, 1) := by decide +kernel
theorem dX4_isSo_4 : decode cX4_isSo 4 = .ok (.istore 6, 2) := by decide +kernel
theorem dX4_isSo_6 : decode cX4_isSo 6 = .ok (.iload 6, 2) := by decide +kernel
theorem dX4_isSo_8 : decode cX4_isSo 8 = .ok (.aload_n 0, 1) := by decide +kernel
theorem dX4_isSo_9 : decode cX4_isSo 9 = .ok (.getfield 13, 3) := by decide +kernel
theorem dX4_isSo_12 : decode cX4_isSo 12 = .ok (.iload 4, 2) := by decide +kernel
theorem dX4_isSo_14 : decode cX4_isSo 14 = .ok (.iaload, 1) := by decide +kernel
theorem dX4_isSo_15 : decode cX4_isSo 15 = .ok (.if_icmp .ge 66, 3) := by decide +kernel
theorem dX4_isSo_18 : decode cX4_isSo 18 = .ok (.iload 5, 2) := by decide +kernel
theorem dX4_isSo_20 : decode cX4_isSo 20 = .ok (.ifCond .eq 52, 3) := by decide +kernel
theorem dX4_isSo_23 : decode cX4_isSo 23 = .ok (.iload_n 1, 1) := by decide +kernel
theorem dX4_isSo_24 : decode cX4_isSo 24 = .ok (.iload_n 2, 1) := by decide +kernel
theorem dX4_isSo_25 : decode cX4_isSo 25 = .ok (.aload_n 0, 1) := by decide +kernel
theorem dX4_isSo_26 : decode cX4_isSo 26 = .ok (.getfield 38, 3) := by decide +kernel
theorem dX4_isSo_29 : decode cX4_isSo 29 = .ok (.bipush 7, 2) := by decide +kernel
theorem dX4_isSo_31 : decode cX4_isSo 31 = .ok (.iload_n 3, 1) := by decide +kernel
theorem dX4_isSo_32 : decode cX4_isSo 32 = .ok (.iadd, 1) := by decide +kernel
theorem dX4_isSo_33 : decode cX4_isSo 33 = .ok (.iaload, 1) := by decide +kernel
theorem dX4_isSo_34 : decode cX4_isSo 34 = .ok (.aload_n 0, 1) := by decide +kernel
theorem dX4_isSo_35 : decode cX4_isSo 35 = .ok (.getfield 7, 3) := by decide +kernel
theorem dX4_isSo_38 : decode cX4_isSo 38 = .ok (.bipush 40, 2) := by decide +kernel
theorem dX4_isSo_40 : decode cX4_isSo 40 = .ok (.iload 4, 2) := by decide +kernel
theorem dX4_isSo_42 : decode cX4_isSo 42 = .ok (.imul, 1) := by decide +kernel
theorem dX4_isSo_43 : decode cX4_isSo 43 = .ok (.iload 6, 2) := by decide +kernel
theorem dX4_isSo_45 : decode cX4_isSo 45 = .ok (.iadd, 1) := by decide +kernel
theorem dX4_isSo_46 : decode cX4_isSo 46 = .ok (.iaload, 1) := by decide +kernel
theorem dX4_isSo_47 : decode cX4_isSo 47 = .ok (.invokestatic 146, 3) := by decide +kernel
theorem dX4_isSo_50 : decode cX4_isSo 50 = .ok (.aload_n 0, 1) := by decide +kernel
theorem dX4_isSo_51 : decode cX4_isSo 51 = .ok (.getfield 7, 3) := by decide +kernel
theorem dX4_isSo_54 : decode cX4_isSo 54 = .ok (.bipush 40, 2) := by decide +kernel
theorem dX4_isSo_56 : decode cX4_isSo 56 = .ok (.iload 4, 2) := by decide +kernel
theorem dX4_isSo_58 : decode cX4_isSo 58 = .ok (.imul, 1) := by decide +kernel
theorem dX4_isSo_59 : decode cX4_isSo 59 = .ok (.iload 6, 2) := by decide +kernel
theorem dX4_isSo_61 : decode cX4_isSo 61 = .ok (.iadd, 1) := by decide +kernel
theorem dX4_isSo_62 : decode cX4_isSo 62 = .ok (.iconst 1, 1) := by decide +kernel
theorem dX4_isSo_63 : decode cX4_isSo 63 = .ok (.iadd, 1) := by decide +kernel
theorem dX4_isSo_64 : decode cX4_isSo 64 = .ok (.iaload, 1) := by decide +kernel
theorem dX4_isSo_65 : decode cX4_isSo 65 = .ok (.if_icmp .ne 7, 3) := by decide +kernel
theorem dX4_isSo_68 : decode cX4_isSo 68 = .ok (.iconst 1, 1) := by decide +kernel
theorem dX4_isSo_69 : decode cX4_isSo 69 = .ok (.goto 4, 3) := by decide +kernel
theorem dX4_isSo_72 : decode cX4_isSo 72 = .ok (.iconst 0, 1) := by decide +kernel
theorem dX4_isSo_73 : decode cX4_isSo 73 = .ok (.istore 5, 2) := by decide +kernel
theorem dX4_isSo_75 : decode cX4_isSo 75 = .ok (.iinc 6 2, 3) := by decide +kernel
theorem dX4_isSo_78 : decode cX4_isSo 78 = .ok (.goto (-72), 3) := by decide +kernel
theorem dX4_isSo_81 : decode cX4_isSo 81 = .ok (.iload 5, 2) := by decide +kernel
theorem dX4_isSo_83 : decode cX4_isSo 83 = .ok (.ireturn, 1) := by decide +kernel
theorem dX4_looks_0 : decode cX4_looks 0 = .ok (.aload_n 0, 1) := by decide +kernel
theorem dX4_looks_1 : decode cX4_looks 1 = .ok (.iload_n 1, 1) := by decide +kernel
theorem dX4_looks_2 : decode cX4_looks 2 = .ok (.invokevirtual 157, 3) := by decide +kernel
theorem dX4_looks_5 : decode cX4_looks 5 = .ok (.ifCond .eq 10, 3) := by decide +kernel
theorem dX4_looks_8 : decode cX4_looks 8 = .ok (.iload_n 2, 1) := by decide +kernel
theorem dX4_looks_9 : decode cX4_looks 9 = .ok (.invokestatic 80, 3) := by decide +kernel
theorem dX4_looks_12 : decode cX4_looks 12 = .ok (.ifCond .ne 5, 3) := by decide +kernel
theorem dX4_looks_15 : decode cX4_looks 15 = .ok (.iconst (-1), 1) := by decide +kernel
theorem dX4_looks_16 : decode cX4_looks 16 = .ok (.ireturn, 1) := by decide +kernel
theorem dX4_looks_17 : decode cX4_looks 17 = .ok (.aload_n 0, 1) := by decide +kernel
theorem dX4_looks_18 : decode cX4_looks 18 = .ok (.iload_n 2, 1) := by decide +kernel
theorem dX4_looks_19 : decode cX4_looks 19 = .ok (.invokevirtual 217, 3) := by decide +kernel
theorem dX4_looks_22 : decode cX4_looks 22 = .ok (.istore_n 3, 1) := by decide +kernel
theorem dX4_looks_23 : decode cX4_looks 23 = .ok (.iload_n 3, 1) := by decide +kernel
theorem dX4_looks_24 : decode cX4_looks 24 = .ok (.ifCond .eq 5, 3) := by decide +kernel
theorem dX4_looks_27 : decode cX4_looks 27 = .ok (.iload_n 3, 1) := by decide +kernel
theorem dX4_looks_28 : decode cX4_looks 28 = .ok (.ireturn, 1) := by decide +kernel
theorem dX4_looks_29 : decode cX4_looks 29 = .ok (.iconst 0, 1) := by decide +kernel
theorem dX4_looks_30 : decode cX4_looks 30 = .ok (.istore 4, 2) := by decide +kernel
theorem dX4_looks_32 : decode cX4_looks 32 = .ok (.iconst 0, 1) := by decide +kernel
theorem dX4_looks_33 : decode cX4_looks 33 = .ok (.istore 5, 2) := by decide +kernel
theorem dX4_looks_35 : decode cX4_looks 35 = .ok (.iload 5, 2) := by decide +kernel
theorem dX4_looks_37 : decode cX4_looks 37 = .ok (.bipush 10, 2) := by decide +kernel
theorem dX4_looks_39 : decode cX4_looks 39 = .ok (.if_icmp .ge 39, 3) := by decide +kernel
theorem dX4_looks_42 : decode cX4_looks 42 = .ok (.iload 4, 2) := by decide +kernel
theorem dX4_looks_44 : decode cX4_looks 44 = .ok (.aload_n 0, 1) := by decide +kernel
theorem dX4_looks_45 : decode cX4_looks 45 = .ok (.aload_n 0, 1) := by decide +kernel
theorem dX4_looks_46 : decode cX4_looks 46 = .ok (.getfield 29, 3) := by decide +kernel
theorem dX4_looks_49 : decode cX4_looks 49 = .ok (.iload_n 1, 1) := by decide +kernel
theorem dX4_looks_50 : decode cX4_looks 50 = .ok (.iaload, 1) := by decide +kernel
theorem dX4_looks_51 : decode cX4_looks 51 = .ok (.iload 5, 2) := by decide +kernel
theorem dX4_looks_53 : decode cX4_looks 53 = .ok (.iload_n 1, 1) := by decide +kernel
theorem dX4_looks_54 : decode cX4_looks 54 = .ok (.iload_n 2, 1) := by decide +kernel
theorem dX4_looks_55 : decode cX4_looks 55 = .ok (.invokevirtual 220, 3) := by decide +kernel
theorem dX4_looks_58 : decode cX4_looks 58 = .ok (.ifCond .eq 10, 3) := by decide +kernel
theorem dX4_looks_61 : decode cX4_looks 61 = .ok (.iconst 1, 1) := by decide +kernel
theorem dX4_looks_62 : decode cX4_looks 62 = .ok (.iload 5, 2) := by decide +kernel
theorem dX4_looks_64 : decode cX4_looks 64 = .ok (.ishl, 1) := by decide +kernel
theorem dX4_looks_65 : decode cX4_looks 65 = .ok (.goto 4, 3) := by decide +kernel
theorem dX4_looks_68 : decode cX4_looks 68 = .ok (.iconst 0, 1) := by decide +kernel
theorem dX4_looks_69 : decode cX4_looks 69 = .ok (.ior, 1) := by decide +kernel
theorem dX4_looks_70 : decode cX4_looks 70 = .ok (.istore 4, 2) := by decide +kernel
theorem dX4_looks_72 : decode cX4_looks 72 = .ok (.iinc 5 1, 3) := by decide +kernel
theorem dX4_looks_75 : decode cX4_looks 75 = .ok (.goto (-40), 3) := by decide +kernel
theorem dX4_looks_78 : decode cX4_looks 78 = .ok (.iload 4, 2) := by decide +kernel
theorem dX4_looks_80 : decode cX4_looks 80 = .ok (.ireturn, 1) := by decide +kernel
theorem dX4_kindsOf_0 : decode cX4_kindsOf 0 = .ok (.iconst 0, 1) := by decide +kernel
theorem dX4_kindsOf_1 : decode cX4_kindsOf 1 = .ok (.istore_n 3, 1) := by decide +kernel
theorem dX4_kindsOf_2 : decode cX4_kindsOf 2 = .ok (.iconst 0, 1) := by decide +kernel
theorem dX4_kindsOf_3 : decode cX4_kindsOf 3 = .ok (.istore 4, 2) := by decide +kernel
theorem dX4_kindsOf_5 : decode cX4_kindsOf 5 = .ok (.iload 4, 2) := by decide +kernel
theorem dX4_kindsOf_7 : decode cX4_kindsOf 7 = .ok (.bipush 6, 2) := by decide +kernel
theorem dX4_kindsOf_9 : decode cX4_kindsOf 9 = .ok (.if_icmp .ge 37, 3) := by decide +kernel
theorem dX4_kindsOf_12 : decode cX4_kindsOf 12 = .ok (.iload_n 3, 1) := by decide +kernel
theorem dX4_kindsOf_13 : decode cX4_kindsOf 13 = .ok (.aload_n 0, 1) := by decide +kernel
theorem dX4_kindsOf_14 : decode cX4_kindsOf 14 = .ok (.iload 4, 2) := by decide +kernel
theorem dX4_kindsOf_16 : decode cX4_kindsOf 16 = .ok (.aload_n 0, 1) := by decide +kernel
theorem dX4_kindsOf_17 : decode cX4_kindsOf 17 = .ok (.getfield 32, 3) := by decide +kernel
theorem dX4_kindsOf_20 : decode cX4_kindsOf 20 = .ok (.iload_n 1, 1) := by decide +kernel
theorem dX4_kindsOf_21 : decode cX4_kindsOf 21 = .ok (.iaload, 1) := by decide +kernel
theorem dX4_kindsOf_22 : decode cX4_kindsOf 22 = .ok (.iload_n 1, 1) := by decide +kernel
theorem dX4_kindsOf_23 : decode cX4_kindsOf 23 = .ok (.iload_n 2, 1) := by decide +kernel
theorem dX4_kindsOf_24 : decode cX4_kindsOf 24 = .ok (.invokevirtual 220, 3) := by decide +kernel
theorem dX4_kindsOf_27 : decode cX4_kindsOf 27 = .ok (.ifCond .eq 10, 3) := by decide +kernel
theorem dX4_kindsOf_30 : decode cX4_kindsOf 30 = .ok (.iconst 1, 1) := by decide +kernel
theorem dX4_kindsOf_31 : decode cX4_kindsOf 31 = .ok (.iload 4, 2) := by decide +kernel
theorem dX4_kindsOf_33 : decode cX4_kindsOf 33 = .ok (.ishl, 1) := by decide +kernel
theorem dX4_kindsOf_34 : decode cX4_kindsOf 34 = .ok (.goto 4, 3) := by decide +kernel
theorem dX4_kindsOf_37 : decode cX4_kindsOf 37 = .ok (.iconst 0, 1) := by decide +kernel
theorem dX4_kindsOf_38 : decode cX4_kindsOf 38 = .ok (.ior, 1) := by decide +kernel
theorem dX4_kindsOf_39 : decode cX4_kindsOf 39 = .ok (.istore_n 3, 1) := by decide +kernel
theorem dX4_kindsOf_40 : decode cX4_kindsOf 40 = .ok (.iinc 4 1, 3) := by decide +kernel
theorem dX4_kindsOf_43 : decode cX4_kindsOf 43 = .ok (.goto (-38), 3) := by decide +kernel
theorem dX4_kindsOf_46 : decode cX4_kindsOf 46 = .ok (.iload_n 3, 1) := by decide +kernel
theorem dX4_kindsOf_47 : decode cX4_kindsOf 47 = .ok (.ireturn, 1) := by decide +kernel
theorem dX4_kinds_0 : decode cX4_kinds 0 = .ok (.aload_n 0, 1) := by decide +kernel
theorem dX4_kinds_1 : decode cX4_kinds 1 = .ok (.iload_n 1, 1) := by decide +kernel
theorem dX4_kinds_2 : decode cX4_kinds 2 = .ok (.invokevirtual 157, 3) := by decide +kernel
theorem dX4_kinds_5 : decode cX4_kinds 5 = .ok (.ifCond .eq 10, 3) := by decide +kernel
theorem dX4_kinds_8 : decode cX4_kinds 8 = .ok (.iload_n 2, 1) := by decide +kernel
theorem dX4_kinds_9 : decode cX4_kinds 9 = .ok (.invokestatic 80, 3) := by decide +kernel
theorem dX4_kinds_12 : decode cX4_kinds 12 = .ok (.ifCond .ne 5, 3) := by decide +kernel
theorem dX4_kinds_15 : decode cX4_kinds 15 = .ok (.iconst (-1), 1) := by decide +kernel
theorem dX4_kinds_16 : decode cX4_kinds 16 = .ok (.ireturn, 1) := by decide +kernel
theorem dX4_kinds_17 : decode cX4_kinds 17 = .ok (.aload_n 0, 1) := by decide +kernel
theorem dX4_kinds_18 : decode cX4_kinds 18 = .ok (.iload_n 2, 1) := by decide +kernel
theorem dX4_kinds_19 : decode cX4_kinds 19 = .ok (.invokevirtual 217, 3) := by decide +kernel
theorem dX4_kinds_22 : decode cX4_kinds 22 = .ok (.istore_n 3, 1) := by decide +kernel
theorem dX4_kinds_23 : decode cX4_kinds 23 = .ok (.iload_n 3, 1) := by decide +kernel
theorem dX4_kinds_24 : decode cX4_kinds 24 = .ok (.ifCond .eq 7, 3) := by decide +kernel
theorem dX4_kinds_27 : decode cX4_kinds 27 = .ok (.iload_n 3, 1) := by decide +kernel
theorem dX4_kinds_28 : decode cX4_kinds 28 = .ok (.goto 9, 3) := by decide +kernel
theorem dX4_kinds_31 : decode cX4_kinds 31 = .ok (.aload_n 0, 1) := by decide +kernel
theorem dX4_kinds_32 : decode cX4_kinds 32 = .ok (.iload_n 1, 1) := by decide +kernel
theorem dX4_kinds_33 : decode cX4_kinds 33 = .ok (.iload_n 2, 1) := by decide +kernel
theorem dX4_kinds_34 : decode cX4_kinds 34 = .ok (.invokevirtual 224, 3) := by decide +kernel
theorem dX4_kinds_37 : decode cX4_kinds 37 = .ok (.ireturn, 1) := by decide +kernel
theorem dX4_test_0 : decode cX4_test 0 = .ok (.aload_n 0, 1) := by decide +kernel
theorem dX4_test_1 : decode cX4_test 1 = .ok (.iload_n 1, 1) := by decide +kernel
theorem dX4_test_2 : decode cX4_test 2 = .ok (.invokevirtual 157, 3) := by decide +kernel
theorem dX4_test_5 : decode cX4_test 5 = .ok (.ifCond .eq 10, 3) := by decide +kernel
theorem dX4_test_8 : decode cX4_test 8 = .ok (.iload_n 2, 1) := by decide +kernel
theorem dX4_test_9 : decode cX4_test 9 = .ok (.invokestatic 80, 3) := by decide +kernel
theorem dX4_test_12 : decode cX4_test 12 = .ok (.ifCond .ne 5, 3) := by decide +kernel
theorem dX4_test_15 : decode cX4_test 15 = .ok (.iconst (-1), 1) := by decide +kernel
theorem dX4_test_16 : decode cX4_test 16 = .ok (.ireturn, 1) := by decide +kernel
theorem dX4_test_17 : decode cX4_test 17 = .ok (.aload_n 0, 1) := by decide +kernel
theorem dX4_test_18 : decode cX4_test 18 = .ok (.iload_n 2, 1) := by decide +kernel
theorem dX4_test_19 : decode cX4_test 19 = .ok (.invokevirtual 217, 3) := by decide +kernel
theorem dX4_test_22 : decode cX4_test 22 = .ok (.istore_n 3, 1) := by decide +kernel
theorem dX4_test_23 : decode cX4_test 23 = .ok (.iload_n 3, 1) := by decide +kernel
theorem dX4_test_24 : decode cX4_test 24 = .ok (.ifCond .eq 5, 3) := by decide +kernel
theorem dX4_test_27 : decode cX4_test 27 = .ok (.iload_n 3, 1) := by decide +kernel
theorem dX4_test_28 : decode cX4_test 28 = .ok (.ireturn, 1) := by decide +kernel
theorem dX4_test_29 : decode cX4_test 29 = .ok (.aload_n 0, 1) := by decide +kernel
theorem dX4_test_30 : decode cX4_test 30 = .ok (.iload_n 1, 1) := by decide +kernel
theorem dX4_test_31 : decode cX4_test 31 = .ok (.iload_n 2, 1) := by decide +kernel
theorem dX4_test_32 : decode cX4_test 32 = .ok (.invokevirtual 224, 3) := by decide +kernel
theorem dX4_test_35 : decode cX4_test 35 = .ok (.istore 4, 2) := by decide +kernel
theorem dX4_test_37 : decode cX4_test 37 = .ok (.bipush (-9), 2) := by decide +kernel
theorem dX4_test_39 : decode cX4_test 39 = .ok (.istore 5, 2) := by decide +kernel
theorem dX4_test_41 : decode cX4_test 41 = .ok (.bipush 7, 2) := by decide +kernel
theorem dX4_test_43 : decode cX4_test 43 = .ok (.istore 6, 2) := by decide +kernel
theorem dX4_test_45 : decode cX4_test 45 = .ok (.iconst 0, 1) := by decide +kernel
theorem dX4_test_46 : decode cX4_test 46 = .ok (.istore 7, 2) := by decide +kernel
theorem dX4_test_48 : decode cX4_test 48 = .ok (.iload 7, 2) := by decide +kernel
theorem dX4_test_50 : decode cX4_test 50 = .ok (.bipush 100, 2) := by decide +kernel
theorem dX4_test_52 : decode cX4_test 52 = .ok (.if_icmp .ge 175, 3) := by decide +kernel
theorem dX4_test_55 : decode cX4_test 55 = .ok (.iload 4, 2) := by decide +kernel
theorem dX4_test_57 : decode cX4_test 57 = .ok (.ifCond .eq 170, 3) := by decide +kernel
theorem dX4_test_60 : decode cX4_test 60 = .ok (.iconst 0, 1) := by decide +kernel
theorem dX4_test_61 : decode cX4_test 61 = .ok (.istore 8, 2) := by decide +kernel
theorem dX4_test_63 : decode cX4_test 63 = .ok (.iconst 0, 1) := by decide +kernel
theorem dX4_test_64 : decode cX4_test 64 = .ok (.istore 9, 2) := by decide +kernel
theorem dX4_test_66 : decode cX4_test 66 = .ok (.iload 9, 2) := by decide +kernel
theorem dX4_test_68 : decode cX4_test 68 = .ok (.bipush 6, 2) := by decide +kernel
theorem dX4_test_70 : decode cX4_test 70 = .ok (.if_icmp .ge 126, 3) := by decide +kernel
theorem dX4_test_73 : decode cX4_test 73 = .ok (.iconst 0, 1) := by decide +kernel
theorem dX4_test_74 : decode cX4_test 74 = .ok (.istore 10, 2) := by decide +kernel
theorem dX4_test_76 : decode cX4_test 76 = .ok (.iconst 0, 1) := by decide +kernel
theorem dX4_test_77 : decode cX4_test 77 = .ok (.istore 11, 2) := by decide +kernel
theorem dX4_test_79 : decode cX4_test 79 = .ok (.iload 11, 2) := by decide +kernel
theorem dX4_test_81 : decode cX4_test 81 = .ok (.bipush 6, 2) := by decide +kernel
theorem dX4_test_83 : decode cX4_test 83 = .ok (.if_icmp .ge 98, 3) := by decide +kernel
theorem dX4_test_86 : decode cX4_test 86 = .ok (.iload 4, 2) := by decide +kernel
theorem dX4_test_88 : decode cX4_test 88 = .ok (.iload 9, 2) := by decide +kernel
theorem dX4_test_90 : decode cX4_test 90 = .ok (.invokestatic 227, 3) := by decide +kernel
theorem dX4_test_93 : decode cX4_test 93 = .ok (.ifCond .eq 17, 3) := by decide +kernel
theorem dX4_test_96 : decode cX4_test 96 = .ok (.iload 4, 2) := by decide +kernel
theorem dX4_test_98 : decode cX4_test 98 = .ok (.iload 11, 2) := by decide +kernel
theorem dX4_test_100 : decode cX4_test 100 = .ok (.invokestatic 227, 3) := by decide +kernel
theorem dX4_test_103 : decode cX4_test 103 = .ok (.ifCond .eq 7, 3) := by decide +kernel
theorem dX4_test_106 : decode cX4_test 106 = .ok (.iconst 1, 1) := by decide +kernel
theorem dX4_test_107 : decode cX4_test 107 = .ok (.goto 4, 3) := by decide +kernel
theorem dX4_test_110 : decode cX4_test 110 = .ok (.iconst 0, 1) := by decide +kernel
theorem dX4_test_111 : decode cX4_test 111 = .ok (.istore 12, 2) := by decide +kernel
theorem dX4_test_113 : decode cX4_test 113 = .ok (.iload 10, 2) := by decide +kernel
theorem dX4_test_115 : decode cX4_test 115 = .ok (.iload 12, 2) := by decide +kernel
theorem dX4_test_117 : decode cX4_test 117 = .ok (.ifCond .eq 54, 3) := by decide +kernel
theorem dX4_test_120 : decode cX4_test 120 = .ok (.iload 9, 2) := by decide +kernel
theorem dX4_test_122 : decode cX4_test 122 = .ok (.aload_n 0, 1) := by decide +kernel
theorem dX4_test_123 : decode cX4_test 123 = .ok (.getfield 32, 3) := by decide +kernel
theorem dX4_test_126 : decode cX4_test 126 = .ok (.iload_n 1, 1) := by decide +kernel
theorem dX4_test_127 : decode cX4_test 127 = .ok (.iaload, 1) := by decide +kernel
theorem dX4_test_128 : decode cX4_test 128 = .ok (.aload_n 0, 1) := by decide +kernel
theorem dX4_test_129 : decode cX4_test 129 = .ok (.getfield 38, 3) := by decide +kernel
theorem dX4_test_132 : decode cX4_test 132 = .ok (.bipush 7, 2) := by decide +kernel
theorem dX4_test_134 : decode cX4_test 134 = .ok (.iload_n 1, 1) := by decide +kernel
theorem dX4_test_135 : decode cX4_test 135 = .ok (.iadd, 1) := by decide +kernel
theorem dX4_test_136 : decode cX4_test 136 = .ok (.iaload, 1) := by decide +kernel
theorem dX4_test_137 : decode cX4_test 137 = .ok (.iload 7, 2) := by decide +kernel
theorem dX4_test_139 : decode cX4_test 139 = .ok (.invokestatic 146, 3) := by decide +kernel
theorem dX4_test_142 : decode cX4_test 142 = .ok (.iload 11, 2) := by decide +kernel
theorem dX4_test_144 : decode cX4_test 144 = .ok (.aload_n 0, 1) := by decide +kernel
theorem dX4_test_145 : decode cX4_test 145 = .ok (.getfield 32, 3) := by decide +kernel
theorem dX4_test_148 : decode cX4_test 148 = .ok (.iload_n 1, 1) := by decide +kernel
theorem dX4_test_149 : decode cX4_test 149 = .ok (.iaload, 1) := by decide +kernel
theorem dX4_test_150 : decode cX4_test 150 = .ok (.aload_n 0, 1) := by decide +kernel
theorem dX4_test_151 : decode cX4_test 151 = .ok (.getfield 38, 3) := by decide +kernel
theorem dX4_test_154 : decode cX4_test 154 = .ok (.bipush 7, 2) := by decide +kernel
theorem dX4_test_156 : decode cX4_test 156 = .ok (.iload_n 1, 1) := by decide +kernel
theorem dX4_test_157 : decode cX4_test 157 = .ok (.iadd, 1) := by decide +kernel
theorem dX4_test_158 : decode cX4_test 158 = .ok (.iaload, 1) := by decide +kernel
theorem dX4_test_159 : decode cX4_test 159 = .ok (.iload 7, 2) := by decide +kernel
theorem dX4_test_161 : decode cX4_test 161 = .ok (.invokestatic 146, 3) := by decide +kernel
theorem dX4_test_164 : decode cX4_test 164 = .ok (.if_icmp .ne 7, 3) := by decide +kernel
theorem dX4_test_167 : decode cX4_test 167 = .ok (.iconst 1, 1) := by decide +kernel
theorem dX4_test_168 : decode cX4_test 168 = .ok (.goto 4, 3) := by decide +kernel
theorem dX4_test_171 : decode cX4_test 171 = .ok (.iconst 0, 1) := by decide +kernel
theorem dX4_test_172 : decode cX4_test 172 = .ok (.iadd, 1) := by decide +kernel
theorem dX4_test_173 : decode cX4_test 173 = .ok (.istore 10, 2) := by decide +kernel
theorem dX4_test_175 : decode cX4_test 175 = .ok (.iinc 11 1, 3) := by decide +kernel
theorem dX4_test_178 : decode cX4_test 178 = .ok (.goto (-99), 3) := by decide +kernel
theorem dX4_test_181 : decode cX4_test 181 = .ok (.iload 8, 2) := by decide +kernel
theorem dX4_test_183 : decode cX4_test 183 = .ok (.iload 10, 2) := by decide +kernel
theorem dX4_test_185 : decode cX4_test 185 = .ok (.invokestatic 139, 3) := by decide +kernel
theorem dX4_test_188 : decode cX4_test 188 = .ok (.istore 8, 2) := by decide +kernel
theorem dX4_test_190 : decode cX4_test 190 = .ok (.iinc 9 1, 3) := by decide +kernel
theorem dX4_test_193 : decode cX4_test 193 = .ok (.goto (-127), 3) := by decide +kernel
theorem dX4_test_196 : decode cX4_test 196 = .ok (.iload 8, 2) := by decide +kernel
theorem dX4_test_198 : decode cX4_test 198 = .ok (.iload 6, 2) := by decide +kernel
theorem dX4_test_200 : decode cX4_test 200 = .ok (.if_icmp .ge 8, 3) := by decide +kernel
theorem dX4_test_203 : decode cX4_test 203 = .ok (.iload 7, 2) := by decide +kernel
theorem dX4_test_205 : decode cX4_test 205 = .ok (.goto 5, 3) := by decide +kernel
theorem dX4_test_208 : decode cX4_test 208 = .ok (.iload 5, 2) := by decide +kernel
theorem dX4_test_210 : decode cX4_test 210 = .ok (.istore 5, 2) := by decide +kernel
theorem dX4_test_212 : decode cX4_test 212 = .ok (.iload 8, 2) := by decide +kernel
theorem dX4_test_214 : decode cX4_test 214 = .ok (.iload 6, 2) := by decide +kernel
theorem dX4_test_216 : decode cX4_test 216 = .ok (.invokestatic 143, 3) := by decide +kernel
theorem dX4_test_219 : decode cX4_test 219 = .ok (.istore 6, 2) := by decide +kernel
theorem dX4_test_221 : decode cX4_test 221 = .ok (.iinc 7 1, 3) := by decide +kernel
theorem dX4_test_224 : decode cX4_test 224 = .ok (.goto (-176), 3) := by decide +kernel
theorem dX4_test_227 : decode cX4_test 227 = .ok (.iload 5, 2) := by decide +kernel
theorem dX4_test_229 : decode cX4_test 229 = .ok (.bipush (-9), 2) := by decide +kernel
theorem dX4_test_231 : decode cX4_test 231 = .ok (.if_icmp .ne 8, 3) := by decide +kernel
theorem dX4_test_234 : decode cX4_test 234 = .ok (.bipush (-9), 2) := by decide +kernel
theorem dX4_test_236 : decode cX4_test 236 = .ok (.goto 11, 3) := by decide +kernel
theorem dX4_test_239 : decode cX4_test 239 = .ok (.aload_n 0, 1) := by decide +kernel
theorem dX4_test_240 : decode cX4_test 240 = .ok (.iload 5, 2) := by decide +kernel
theorem dX4_test_242 : decode cX4_test 242 = .ok (.iload 6, 2) := by decide +kernel
theorem dX4_test_244 : decode cX4_test 244 = .ok (.invokevirtual 186, 3) := by decide +kernel
theorem dX4_test_247 : decode cX4_test 247 = .ok (.ireturn, 1) := by decide +kernel
theorem dX4_weighs_0 : decode cX4_weighs 0 = .ok (.iload_n 2, 1) := by decide +kernel
theorem dX4_weighs_1 : decode cX4_weighs 1 = .ok (.ifCond .eq 7, 3) := by decide +kernel
theorem dX4_weighs_4 : decode cX4_weighs 4 = .ok (.iconst 4, 1) := by decide +kernel
theorem dX4_weighs_5 : decode cX4_weighs 5 = .ok (.goto 4, 3) := by decide +kernel
theorem dX4_weighs_8 : decode cX4_weighs 8 = .ok (.iconst 1, 1) := by decide +kernel
theorem dX4_weighs_9 : decode cX4_weighs 9 = .ok (.istore_n 3, 1) := by decide +kernel
theorem dX4_weighs_10 : decode cX4_weighs 10 = .ok (.iload_n 1, 1) := by decide +kernel
theorem dX4_weighs_11 : decode cX4_weighs 11 = .ok (.iload_n 3, 1) := by decide +kernel
theorem dX4_weighs_12 : decode cX4_weighs 12 = .ok (.idiv, 1) := by decide +kernel
theorem dX4_weighs_13 : decode cX4_weighs 13 = .ok (.iconst 4, 1) := by decide +kernel
theorem dX4_weighs_14 : decode cX4_weighs 14 = .ok (.irem, 1) := by decide +kernel
theorem dX4_weighs_15 : decode cX4_weighs 15 = .ok (.istore 4, 2) := by decide +kernel
theorem dX4_weighs_17 : decode cX4_weighs 17 = .ok (.aload_n 0, 1) := by decide +kernel
theorem dX4_weighs_18 : decode cX4_weighs 18 = .ok (.getfield 56, 3) := by decide +kernel
theorem dX4_weighs_21 : decode cX4_weighs 21 = .ok (.iload_n 1, 1) := by decide +kernel
theorem dX4_weighs_22 : decode cX4_weighs 22 = .ok (.iaload, 1) := by decide +kernel
theorem dX4_weighs_23 : decode cX4_weighs 23 = .ok (.istore 5, 2) := by decide +kernel
theorem dX4_weighs_25 : decode cX4_weighs 25 = .ok (.iconst 0, 1) := by decide +kernel
theorem dX4_weighs_26 : decode cX4_weighs 26 = .ok (.istore 6, 2) := by decide +kernel
theorem dX4_weighs_28 : decode cX4_weighs 28 = .ok (.iload 6, 2) := by decide +kernel
theorem dX4_weighs_30 : decode cX4_weighs 30 = .ok (.iconst 4, 1) := by decide +kernel
theorem dX4_weighs_31 : decode cX4_weighs 31 = .ok (.if_icmp .ge 81, 3) := by decide +kernel
theorem dX4_weighs_34 : decode cX4_weighs 34 = .ok (.iload 6, 2) := by decide +kernel
theorem dX4_weighs_36 : decode cX4_weighs 36 = .ok (.iload 4, 2) := by decide +kernel
theorem dX4_weighs_38 : decode cX4_weighs 38 = .ok (.iconst 1, 1) := by decide +kernel
theorem dX4_weighs_39 : decode cX4_weighs 39 = .ok (.iadd, 1) := by decide +kernel
theorem dX4_weighs_40 : decode cX4_weighs 40 = .ok (.if_icmp .eq 13, 3) := by decide +kernel
theorem dX4_weighs_43 : decode cX4_weighs 43 = .ok (.iload 6, 2) := by decide +kernel
theorem dX4_weighs_45 : decode cX4_weighs 45 = .ok (.ifCond .ne 12, 3) := by decide +kernel
theorem dX4_weighs_48 : decode cX4_weighs 48 = .ok (.iload 4, 2) := by decide +kernel
theorem dX4_weighs_50 : decode cX4_weighs 50 = .ok (.ifCond .le 7, 3) := by decide +kernel
theorem dX4_weighs_53 : decode cX4_weighs 53 = .ok (.iconst 1, 1) := by decide +kernel
theorem dX4_weighs_54 : decode cX4_weighs 54 = .ok (.goto 4, 3) := by decide +kernel
theorem dX4_weighs_57 : decode cX4_weighs 57 = .ok (.iconst 0, 1) := by decide +kernel
theorem dX4_weighs_58 : decode cX4_weighs 58 = .ok (.istore 7, 2) := by decide +kernel
theorem dX4_weighs_60 : decode cX4_weighs 60 = .ok (.aload_n 0, 1) := by decide +kernel
theorem dX4_weighs_61 : decode cX4_weighs 61 = .ok (.getfield 56, 3) := by decide +kernel
theorem dX4_weighs_64 : decode cX4_weighs 64 = .ok (.iload_n 1, 1) := by decide +kernel
theorem dX4_weighs_65 : decode cX4_weighs 65 = .ok (.iload_n 3, 1) := by decide +kernel
theorem dX4_weighs_66 : decode cX4_weighs 66 = .ok (.iload 6, 2) := by decide +kernel
theorem dX4_weighs_68 : decode cX4_weighs 68 = .ok (.iload 4, 2) := by decide +kernel
theorem dX4_weighs_70 : decode cX4_weighs 70 = .ok (.isub, 1) := by decide +kernel
theorem dX4_weighs_71 : decode cX4_weighs 71 = .ok (.imul, 1) := by decide +kernel
theorem dX4_weighs_72 : decode cX4_weighs 72 = .ok (.iadd, 1) := by decide +kernel
theorem dX4_weighs_73 : decode cX4_weighs 73 = .ok (.iaload, 1) := by decide +kernel
theorem dX4_weighs_74 : decode cX4_weighs 74 = .ok (.istore 8, 2) := by decide +kernel
theorem dX4_weighs_76 : decode cX4_weighs 76 = .ok (.iload 7, 2) := by decide +kernel
theorem dX4_weighs_78 : decode cX4_weighs 78 = .ok (.ifCond .eq 24, 3) := by decide +kernel
theorem dX4_weighs_81 : decode cX4_weighs 81 = .ok (.iload_n 2, 1) := by decide +kernel
theorem dX4_weighs_82 : decode cX4_weighs 82 = .ok (.iload 8, 2) := by decide +kernel
theorem dX4_weighs_84 : decode cX4_weighs 84 = .ok (.iload 5, 2) := by decide +kernel
theorem dX4_weighs_86 : decode cX4_weighs 86 = .ok (.if_icmp .le 7, 3) := by decide +kernel
theorem dX4_weighs_89 : decode cX4_weighs 89 = .ok (.iconst 1, 1) := by decide +kernel
theorem dX4_weighs_90 : decode cX4_weighs 90 = .ok (.goto 4, 3) := by decide +kernel
theorem dX4_weighs_93 : decode cX4_weighs 93 = .ok (.iconst 0, 1) := by decide +kernel
theorem dX4_weighs_94 : decode cX4_weighs 94 = .ok (.if_icmp .ne 8, 3) := by decide +kernel
theorem dX4_weighs_97 : decode cX4_weighs 97 = .ok (.iload 8, 2) := by decide +kernel
theorem dX4_weighs_99 : decode cX4_weighs 99 = .ok (.goto 5, 3) := by decide +kernel
theorem dX4_weighs_102 : decode cX4_weighs 102 = .ok (.iload 5, 2) := by decide +kernel
theorem dX4_weighs_104 : decode cX4_weighs 104 = .ok (.istore 5, 2) := by decide +kernel
theorem dX4_weighs_106 : decode cX4_weighs 106 = .ok (.iinc 6 1, 3) := by decide +kernel
theorem dX4_weighs_109 : decode cX4_weighs 109 = .ok (.goto (-81), 3) := by decide +kernel
theorem dX4_weighs_112 : decode cX4_weighs 112 = .ok (.iload 5, 2) := by decide +kernel
theorem dX4_weighs_114 : decode cX4_weighs 114 = .ok (.ireturn, 1) := by decide +kernel
theorem dX4_duel_0 : decode cX4_duel 0 = .ok (.aload_n 0, 1) := by decide +kernel
theorem dX4_duel_1 : decode cX4_duel 1 = .ok (.iload_n 1, 1) := by decide +kernel
theorem dX4_duel_2 : decode cX4_duel 2 = .ok (.invokevirtual 157, 3) := by decide +kernel
theorem dX4_duel_5 : decode cX4_duel 5 = .ok (.ifCond .eq 28, 3) := by decide +kernel
theorem dX4_duel_8 : decode cX4_duel 8 = .ok (.aload_n 0, 1) := by decide +kernel
theorem dX4_duel_9 : decode cX4_duel 9 = .ok (.iload_n 2, 1) := by decide +kernel
theorem dX4_duel_10 : decode cX4_duel 10 = .ok (.invokevirtual 157, 3) := by decide +kernel
theorem dX4_duel_13 : decode cX4_duel 13 = .ok (.ifCond .eq 20, 3) := by decide +kernel
theorem dX4_duel_16 : decode cX4_duel 16 = .ok (.iload_n 1, 1) := by decide +kernel
theorem dX4_duel_17 : decode cX4_duel 17 = .ok (.iload_n 2, 1) := by decide +kernel
theorem dX4_duel_18 : decode cX4_duel 18 = .ok (.if_icmp .eq 15, 3) := by decide +kernel
theorem dX4_duel_21 : decode cX4_duel 21 = .ok (.iload_n 3, 1) := by decide +kernel
theorem dX4_duel_22 : decode cX4_duel 22 = .ok (.i2l, 1) := by decide +kernel
theorem dX4_duel_23 : decode cX4_duel 23 = .ok (.lconst 0, 1) := by decide +kernel
theorem dX4_duel_24 : decode cX4_duel 24 = .ok (.ldc2_w 160, 3) := by decide +kernel
theorem dX4_duel_27 : decode cX4_duel 27 = .ok (.invokestatic 74, 3) := by decide +kernel
theorem dX4_duel_30 : decode cX4_duel 30 = .ok (.ifCond .ne 5, 3) := by decide +kernel
theorem dX4_duel_33 : decode cX4_duel 33 = .ok (.iconst (-1), 1) := by decide +kernel
theorem dX4_duel_34 : decode cX4_duel 34 = .ok (.ireturn, 1) := by decide +kernel
theorem dX4_duel_35 : decode cX4_duel 35 = .ok (.iconst 0, 1) := by decide +kernel
theorem dX4_duel_36 : decode cX4_duel 36 = .ok (.istore 4, 2) := by decide +kernel
theorem dX4_duel_38 : decode cX4_duel 38 = .ok (.iload 4, 2) := by decide +kernel
theorem dX4_duel_40 : decode cX4_duel 40 = .ok (.bipush 16, 2) := by decide +kernel
theorem dX4_duel_42 : decode cX4_duel 42 = .ok (.if_icmp .ge 70, 3) := by decide +kernel
theorem dX4_duel_45 : decode cX4_duel 45 = .ok (.aload_n 0, 1) := by decide +kernel
theorem dX4_duel_46 : decode cX4_duel 46 = .ok (.invokevirtual 191, 3) := by decide +kernel
theorem dX4_duel_49 : decode cX4_duel 49 = .ok (.aload_n 0, 1) := by decide +kernel
theorem dX4_duel_50 : decode cX4_duel 50 = .ok (.getfield 41, 3) := by decide +kernel
theorem dX4_duel_53 : decode cX4_duel 53 = .ok (.bipush 7, 2) := by decide +kernel
theorem dX4_duel_55 : decode cX4_duel 55 = .ok (.iload_n 1, 1) := by decide +kernel
theorem dX4_duel_56 : decode cX4_duel 56 = .ok (.iadd, 1) := by decide +kernel
theorem dX4_duel_57 : decode cX4_duel 57 = .ok (.iload 4, 2) := by decide +kernel
theorem dX4_duel_59 : decode cX4_duel 59 = .ok (.iconst 4, 1) := by decide +kernel
theorem dX4_duel_60 : decode cX4_duel 60 = .ok (.idiv, 1) := by decide +kernel
theorem dX4_duel_61 : decode cX4_duel 61 = .ok (.iastore, 1) := by decide +kernel
theorem dX4_duel_62 : decode cX4_duel 62 = .ok (.aload_n 0, 1) := by decide +kernel
theorem dX4_duel_63 : decode cX4_duel 63 = .ok (.getfield 41, 3) := by decide +kernel
theorem dX4_duel_66 : decode cX4_duel 66 = .ok (.bipush 7, 2) := by decide +kernel
theorem dX4_duel_68 : decode cX4_duel 68 = .ok (.iload_n 2, 1) := by decide +kernel
theorem dX4_duel_69 : decode cX4_duel 69 = .ok (.iadd, 1) := by decide +kernel
theorem dX4_duel_70 : decode cX4_duel 70 = .ok (.iload 4, 2) := by decide +kernel
theorem dX4_duel_72 : decode cX4_duel 72 = .ok (.iconst 4, 1) := by decide +kernel
theorem dX4_duel_73 : decode cX4_duel 73 = .ok (.irem, 1) := by decide +kernel
theorem dX4_duel_74 : decode cX4_duel 74 = .ok (.iastore, 1) := by decide +kernel
theorem dX4_duel_75 : decode cX4_duel 75 = .ok (.aload_n 0, 1) := by decide +kernel
theorem dX4_duel_76 : decode cX4_duel 76 = .ok (.iconst 4, 1) := by decide +kernel
theorem dX4_duel_77 : decode cX4_duel 77 = .ok (.invokevirtual 194, 3) := by decide +kernel
theorem dX4_duel_80 : decode cX4_duel 80 = .ok (.istore 5, 2) := by decide +kernel
theorem dX4_duel_82 : decode cX4_duel 82 = .ok (.aload_n 0, 1) := by decide +kernel
theorem dX4_duel_83 : decode cX4_duel 83 = .ok (.getfield 56, 3) := by decide +kernel
theorem dX4_duel_86 : decode cX4_duel 86 = .ok (.iload 4, 2) := by decide +kernel
theorem dX4_duel_88 : decode cX4_duel 88 = .ok (.aload_n 0, 1) := by decide +kernel
theorem dX4_duel_89 : decode cX4_duel 89 = .ok (.getfield 41, 3) := by decide +kernel
theorem dX4_duel_92 : decode cX4_duel 92 = .ok (.iconst 1, 1) := by decide +kernel
theorem dX4_duel_93 : decode cX4_duel 93 = .ok (.iload_n 1, 1) := by decide +kernel
theorem dX4_duel_94 : decode cX4_duel 94 = .ok (.iadd, 1) := by decide +kernel
theorem dX4_duel_95 : decode cX4_duel 95 = .ok (.iaload, 1) := by decide +kernel
theorem dX4_duel_96 : decode cX4_duel 96 = .ok (.aload_n 0, 1) := by decide +kernel
theorem dX4_duel_97 : decode cX4_duel 97 = .ok (.getfield 41, 3) := by decide +kernel
theorem dX4_duel_100 : decode cX4_duel 100 = .ok (.iconst 1, 1) := by decide +kernel
theorem dX4_duel_101 : decode cX4_duel 101 = .ok (.iload_n 2, 1) := by decide +kernel
theorem dX4_duel_102 : decode cX4_duel 102 = .ok (.iadd, 1) := by decide +kernel
theorem dX4_duel_103 : decode cX4_duel 103 = .ok (.iaload, 1) := by decide +kernel
theorem dX4_duel_104 : decode cX4_duel 104 = .ok (.isub, 1) := by decide +kernel
theorem dX4_duel_105 : decode cX4_duel 105 = .ok (.iastore, 1) := by decide +kernel
theorem dX4_duel_106 : decode cX4_duel 106 = .ok (.iinc 4 1, 3) := by decide +kernel
theorem dX4_duel_109 : decode cX4_duel 109 = .ok (.goto (-71), 3) := by decide +kernel
theorem dX4_duel_112 : decode cX4_duel 112 = .ok (.iload_n 3, 1) := by decide +kernel
theorem dX4_duel_113 : decode cX4_duel 113 = .ok (.istore 4, 2) := by decide +kernel
theorem dX4_duel_115 : decode cX4_duel 115 = .ok (.iload 4, 2) := by decide +kernel
theorem dX4_duel_117 : decode cX4_duel 117 = .ok (.ifCond .le 66, 3) := by decide +kernel
theorem dX4_duel_120 : decode cX4_duel 120 = .ok (.iconst 0, 1) := by decide +kernel
theorem dX4_duel_121 : decode cX4_duel 121 = .ok (.istore 5, 2) := by decide +kernel
theorem dX4_duel_123 : decode cX4_duel 123 = .ok (.iload 5, 2) := by decide +kernel
theorem dX4_duel_125 : decode cX4_duel 125 = .ok (.bipush 16, 2) := by decide +kernel
theorem dX4_duel_127 : decode cX4_duel 127 = .ok (.if_icmp .ge 35, 3) := by decide +kernel
theorem dX4_duel_130 : decode cX4_duel 130 = .ok (.aload_n 0, 1) := by decide +kernel
theorem dX4_duel_131 : decode cX4_duel 131 = .ok (.getfield 59, 3) := by decide +kernel
theorem dX4_duel_134 : decode cX4_duel 134 = .ok (.iload 5, 2) := by decide +kernel
theorem dX4_duel_136 : decode cX4_duel 136 = .ok (.aload_n 0, 1) := by decide +kernel
theorem dX4_duel_137 : decode cX4_duel 137 = .ok (.iload 5, 2) := by decide +kernel
theorem dX4_duel_139 : decode cX4_duel 139 = .ok (.iload 4, 2) := by decide +kernel
theorem dX4_duel_141 : decode cX4_duel 141 = .ok (.iconst 2, 1) := by decide +kernel
theorem dX4_duel_142 : decode cX4_duel 142 = .ok (.irem, 1) := by decide +kernel
theorem dX4_duel_143 : decode cX4_duel 143 = .ok (.iconst 1, 1) := by decide +kernel
theorem dX4_duel_144 : decode cX4_duel 144 = .ok (.if_icmp .ne 7, 3) := by decide +kernel
theorem dX4_duel_147 : decode cX4_duel 147 = .ok (.iconst 1, 1) := by decide +kernel
theorem dX4_duel_148 : decode cX4_duel 148 = .ok (.goto 4, 3) := by decide +kernel
theorem dX4_duel_151 : decode cX4_duel 151 = .ok (.iconst 0, 1) := by decide +kernel
theorem dX4_duel_152 : decode cX4_duel 152 = .ok (.invokevirtual 230, 3) := by decide +kernel
theorem dX4_duel_155 : decode cX4_duel 155 = .ok (.iastore, 1) := by decide +kernel
theorem dX4_duel_156 : decode cX4_duel 156 = .ok (.iinc 5 1, 3) := by decide +kernel
theorem dX4_duel_159 : decode cX4_duel 159 = .ok (.goto (-36), 3) := by decide +kernel
end
section
theorem dX4_duel_162 : decode cX4_duel 162 = .ok (.aload_n 0, 1) := by decide +kernel
theorem dX4_duel_163 : decode cX4_duel 163 = .ok (.getfield 59, 3) := by decide +kernel
theorem dX4_duel_166 : decode cX4_duel 166 = .ok (.iconst 0, 1) := by decide +kernel
theorem dX4_duel_167 : decode cX4_duel 167 = .ok (.aload_n 0, 1) := by decide +kernel
theorem dX4_duel_168 : decode cX4_duel 168 = .ok (.getfield 56, 3) := by decide +kernel
theorem dX4_duel_171 : decode cX4_duel 171 = .ok (.iconst 0, 1) := by decide +kernel
theorem dX4_duel_172 : decode cX4_duel 172 = .ok (.bipush 16, 2) := by decide +kernel
theorem dX4_duel_174 : decode cX4_duel 174 = .ok (.invokestatic 174, 3) := by decide +kernel
theorem dX4_duel_177 : decode cX4_duel 177 = .ok (.iinc 4 (-1), 3) := by decide +kernel
theorem dX4_duel_180 : decode cX4_duel 180 = .ok (.goto (-65), 3) := by decide +kernel
theorem dX4_duel_183 : decode cX4_duel 183 = .ok (.bipush 100, 2) := by decide +kernel
theorem dX4_duel_185 : decode cX4_duel 185 = .ok (.aload_n 0, 1) := by decide +kernel
theorem dX4_duel_186 : decode cX4_duel 186 = .ok (.getfield 56, 3) := by decide +kernel
theorem dX4_duel_189 : decode cX4_duel 189 = .ok (.iconst 4, 1) := by decide +kernel
theorem dX4_duel_190 : decode cX4_duel 190 = .ok (.aload_n 0, 1) := by decide +kernel
theorem dX4_duel_191 : decode cX4_duel 191 = .ok (.getfield 38, 3) := by decide +kernel
theorem dX4_duel_194 : decode cX4_duel 194 = .ok (.bipush 7, 2) := by decide +kernel
theorem dX4_duel_196 : decode cX4_duel 196 = .ok (.iload_n 1, 1) := by decide +kernel
theorem dX4_duel_197 : decode cX4_duel 197 = .ok (.iadd, 1) := by decide +kernel
theorem dX4_duel_198 : decode cX4_duel 198 = .ok (.iaload, 1) := by decide +kernel
theorem dX4_duel_199 : decode cX4_duel 199 = .ok (.imul, 1) := by decide +kernel
theorem dX4_duel_200 : decode cX4_duel 200 = .ok (.aload_n 0, 1) := by decide +kernel
theorem dX4_duel_201 : decode cX4_duel 201 = .ok (.getfield 38, 3) := by decide +kernel
theorem dX4_duel_204 : decode cX4_duel 204 = .ok (.bipush 7, 2) := by decide +kernel
theorem dX4_duel_206 : decode cX4_duel 206 = .ok (.iload_n 2, 1) := by decide +kernel
theorem dX4_duel_207 : decode cX4_duel 207 = .ok (.iadd, 1) := by decide +kernel
theorem dX4_duel_208 : decode cX4_duel 208 = .ok (.iaload, 1) := by decide +kernel
theorem dX4_duel_209 : decode cX4_duel 209 = .ok (.iadd, 1) := by decide +kernel
theorem dX4_duel_210 : decode cX4_duel 210 = .ok (.iaload, 1) := by decide +kernel
theorem dX4_duel_211 : decode cX4_duel 211 = .ok (.iadd, 1) := by decide +kernel
theorem dX4_duel_212 : decode cX4_duel 212 = .ok (.ireturn, 1) := by decide +kernel
theorem dX4_fraction_0 : decode cX4_fraction 0 = .ok (.lload_n 1, 1) := by decide +kernel
theorem dX4_fraction_1 : decode cX4_fraction 1 = .ok (.lstore 5, 2) := by decide +kernel
theorem dX4_fraction_3 : decode cX4_fraction 3 = .ok (.lload_n 3, 1) := by decide +kernel
theorem dX4_fraction_4 : decode cX4_fraction 4 = .ok (.lstore 7, 2) := by decide +kernel
theorem dX4_fraction_6 : decode cX4_fraction 6 = .ok (.lload 7, 2) := by decide +kernel
theorem dX4_fraction_8 : decode cX4_fraction 8 = .ok (.lconst 0, 1) := by decide +kernel
theorem dX4_fraction_9 : decode cX4_fraction 9 = .ok (.lcmp, 1) := by decide +kernel
theorem dX4_fraction_10 : decode cX4_fraction 10 = .ok (.ifCond .eq 21, 3) := by decide +kernel
theorem dX4_fraction_13 : decode cX4_fraction 13 = .ok (.lload 5, 2) := by decide +kernel
theorem dX4_fraction_15 : decode cX4_fraction 15 = .ok (.lload 7, 2) := by decide +kernel
theorem dX4_fraction_17 : decode cX4_fraction 17 = .ok (.lrem, 1) := by decide +kernel
theorem dX4_fraction_18 : decode cX4_fraction 18 = .ok (.lstore 9, 2) := by decide +kernel
theorem dX4_fraction_20 : decode cX4_fraction 20 = .ok (.lload 7, 2) := by decide +kernel
theorem dX4_fraction_22 : decode cX4_fraction 22 = .ok (.lstore 5, 2) := by decide +kernel
theorem dX4_fraction_24 : decode cX4_fraction 24 = .ok (.lload 9, 2) := by decide +kernel
theorem dX4_fraction_26 : decode cX4_fraction 26 = .ok (.lstore 7, 2) := by decide +kernel
theorem dX4_fraction_28 : decode cX4_fraction 28 = .ok (.goto (-22), 3) := by decide +kernel
theorem dX4_fraction_31 : decode cX4_fraction 31 = .ok (.aload_n 0, 1) := by decide +kernel
theorem dX4_fraction_32 : decode cX4_fraction 32 = .ok (.lload_n 1, 1) := by decide +kernel
theorem dX4_fraction_33 : decode cX4_fraction 33 = .ok (.lload 5, 2) := by decide +kernel
theorem dX4_fraction_35 : decode cX4_fraction 35 = .ok (.ldiv, 1) := by decide +kernel
theorem dX4_fraction_36 : decode cX4_fraction 36 = .ok (.putfield 234, 3) := by decide +kernel
theorem dX4_fraction_39 : decode cX4_fraction 39 = .ok (.aload_n 0, 1) := by decide +kernel
theorem dX4_fraction_40 : decode cX4_fraction 40 = .ok (.lload_n 3, 1) := by decide +kernel
theorem dX4_fraction_41 : decode cX4_fraction 41 = .ok (.lload 5, 2) := by decide +kernel
theorem dX4_fraction_43 : decode cX4_fraction 43 = .ok (.ldiv, 1) := by decide +kernel
theorem dX4_fraction_44 : decode cX4_fraction 44 = .ok (.putfield 22, 3) := by decide +kernel
theorem dX4_fraction_47 : decode cX4_fraction 47 = .ok (.iconst 1, 1) := by decide +kernel
theorem dX4_fraction_48 : decode cX4_fraction 48 = .ok (.ireturn, 1) := by decide +kernel
theorem dX4_ways_0 : decode cX4_ways 0 = .ok (.lconst 0, 1) := by decide +kernel
theorem dX4_ways_1 : decode cX4_ways 1 = .ok (.lstore 4, 2) := by decide +kernel
theorem dX4_ways_3 : decode cX4_ways 3 = .ok (.iconst 0, 1) := by decide +kernel
theorem dX4_ways_4 : decode cX4_ways 4 = .ok (.istore 6, 2) := by decide +kernel
theorem dX4_ways_6 : decode cX4_ways 6 = .ok (.iload 6, 2) := by decide +kernel
theorem dX4_ways_8 : decode cX4_ways 8 = .ok (.iconst 1, 1) := by decide +kernel
theorem dX4_ways_9 : decode cX4_ways 9 = .ok (.aload_n 0, 1) := by decide +kernel
theorem dX4_ways_10 : decode cX4_ways 10 = .ok (.getfield 136, 3) := by decide +kernel
theorem dX4_ways_13 : decode cX4_ways 13 = .ok (.ishl, 1) := by decide +kernel
theorem dX4_ways_14 : decode cX4_ways 14 = .ok (.if_icmp .ge 153, 3) := by decide +kernel
theorem dX4_ways_17 : decode cX4_ways 17 = .ok (.aload_n 0, 1) := by decide +kernel
theorem dX4_ways_18 : decode cX4_ways 18 = .ok (.aload_n 0, 1) := by decide +kernel
theorem dX4_ways_19 : decode cX4_ways 19 = .ok (.getfield 38, 3) := by decide +kernel
theorem dX4_ways_22 : decode cX4_ways 22 = .ok (.invokevirtual 150, 3) := by decide +kernel
theorem dX4_ways_25 : decode cX4_ways 25 = .ok (.istore 7, 2) := by decide +kernel
theorem dX4_ways_27 : decode cX4_ways 27 = .ok (.iconst 0, 1) := by decide +kernel
theorem dX4_ways_28 : decode cX4_ways 28 = .ok (.istore 7, 2) := by decide +kernel
theorem dX4_ways_30 : decode cX4_ways 30 = .ok (.lconst 1, 1) := by decide +kernel
theorem dX4_ways_31 : decode cX4_ways 31 = .ok (.lstore 8, 2) := by decide +kernel
theorem dX4_ways_33 : decode cX4_ways 33 = .ok (.iconst 0, 1) := by decide +kernel
theorem dX4_ways_34 : decode cX4_ways 34 = .ok (.istore 10, 2) := by decide +kernel
theorem dX4_ways_36 : decode cX4_ways 36 = .ok (.iload 10, 2) := by decide +kernel
theorem dX4_ways_38 : decode cX4_ways 38 = .ok (.aload_n 0, 1) := by decide +kernel
theorem dX4_ways_39 : decode cX4_ways 39 = .ok (.getfield 136, 3) := by decide +kernel
theorem dX4_ways_42 : decode cX4_ways 42 = .ok (.if_icmp .ge 77, 3) := by decide +kernel
theorem dX4_ways_45 : decode cX4_ways 45 = .ok (.lload 8, 2) := by decide +kernel
theorem dX4_ways_47 : decode cX4_ways 47 = .ok (.iload 6, 2) := by decide +kernel
theorem dX4_ways_49 : decode cX4_ways 49 = .ok (.iload 10, 2) := by decide +kernel
theorem dX4_ways_51 : decode cX4_ways 51 = .ok (.invokestatic 227, 3) := by decide +kernel
theorem dX4_ways_54 : decode cX4_ways 54 = .ok (.ifCond .eq 8, 3) := by decide +kernel
theorem dX4_ways_57 : decode cX4_ways 57 = .ok (.iload_n 3, 1) := by decide +kernel
theorem dX4_ways_58 : decode cX4_ways 58 = .ok (.i2l, 1) := by decide +kernel
theorem dX4_ways_59 : decode cX4_ways 59 = .ok (.goto 9, 3) := by decide +kernel
theorem dX4_ways_62 : decode cX4_ways 62 = .ok (.ldc2_w 237, 3) := by decide +kernel
theorem dX4_ways_65 : decode cX4_ways 65 = .ok (.iload_n 3, 1) := by decide +kernel
theorem dX4_ways_66 : decode cX4_ways 66 = .ok (.i2l, 1) := by decide +kernel
theorem dX4_ways_67 : decode cX4_ways 67 = .ok (.lsub, 1) := by decide +kernel
theorem dX4_ways_68 : decode cX4_ways 68 = .ok (.lmul, 1) := by decide +kernel
theorem dX4_ways_69 : decode cX4_ways 69 = .ok (.lstore 8, 2) := by decide +kernel
theorem dX4_ways_71 : decode cX4_ways 71 = .ok (.aload_n 0, 1) := by decide +kernel
theorem dX4_ways_72 : decode cX4_ways 72 = .ok (.getfield 44, 3) := by decide +kernel
theorem dX4_ways_75 : decode cX4_ways 75 = .ok (.iload 10, 2) := by decide +kernel
theorem dX4_ways_77 : decode cX4_ways 77 = .ok (.iload 6, 2) := by decide +kernel
theorem dX4_ways_79 : decode cX4_ways 79 = .ok (.iload 10, 2) := by decide +kernel
theorem dX4_ways_81 : decode cX4_ways 81 = .ok (.invokestatic 227, 3) := by decide +kernel
theorem dX4_ways_84 : decode cX4_ways 84 = .ok (.ifCond .eq 7, 3) := by decide +kernel
theorem dX4_ways_87 : decode cX4_ways 87 = .ok (.iconst 0, 1) := by decide +kernel
theorem dX4_ways_88 : decode cX4_ways 88 = .ok (.goto 10, 3) := by decide +kernel
theorem dX4_ways_91 : decode cX4_ways 91 = .ok (.aload_n 0, 1) := by decide +kernel
theorem dX4_ways_92 : decode cX4_ways 92 = .ok (.getfield 44, 3) := by decide +kernel
theorem dX4_ways_95 : decode cX4_ways 95 = .ok (.iload 10, 2) := by decide +kernel
theorem dX4_ways_97 : decode cX4_ways 97 = .ok (.iaload, 1) := by decide +kernel
theorem dX4_ways_98 : decode cX4_ways 98 = .ok (.iastore, 1) := by decide +kernel
theorem dX4_ways_99 : decode cX4_ways 99 = .ok (.iload 7, 2) := by decide +kernel
theorem dX4_ways_101 : decode cX4_ways 101 = .ok (.aload_n 0, 1) := by decide +kernel
theorem dX4_ways_102 : decode cX4_ways 102 = .ok (.getfield 44, 3) := by decide +kernel
theorem dX4_ways_105 : decode cX4_ways 105 = .ok (.iload 10, 2) := by decide +kernel
theorem dX4_ways_107 : decode cX4_ways 107 = .ok (.iaload, 1) := by decide +kernel
theorem dX4_ways_108 : decode cX4_ways 108 = .ok (.invokestatic 139, 3) := by decide +kernel
theorem dX4_ways_111 : decode cX4_ways 111 = .ok (.istore 7, 2) := by decide +kernel
theorem dX4_ways_113 : decode cX4_ways 113 = .ok (.iinc 10 1, 3) := by decide +kernel
theorem dX4_ways_116 : decode cX4_ways 116 = .ok (.goto (-80), 3) := by decide +kernel
theorem dX4_ways_119 : decode cX4_ways 119 = .ok (.lload 4, 2) := by decide +kernel
theorem dX4_ways_121 : decode cX4_ways 121 = .ok (.lload 8, 2) := by decide +kernel
theorem dX4_ways_123 : decode cX4_ways 123 = .ok (.iload_n 1, 1) := by decide +kernel
theorem dX4_ways_124 : decode cX4_ways 124 = .ok (.bipush (-9), 2) := by decide +kernel
theorem dX4_ways_126 : decode cX4_ways 126 = .ok (.if_icmp .ne 12, 3) := by decide +kernel
theorem dX4_ways_129 : decode cX4_ways 129 = .ok (.aload_n 0, 1) := by decide +kernel
theorem dX4_ways_130 : decode cX4_ways 130 = .ok (.iload 7, 2) := by decide +kernel
theorem dX4_ways_132 : decode cX4_ways 132 = .ok (.invokevirtual 154, 3) := by decide +kernel
theorem dX4_ways_135 : decode cX4_ways 135 = .ok (.goto 21, 3) := by decide +kernel
theorem dX4_ways_138 : decode cX4_ways 138 = .ok (.iload 7, 2) := by decide +kernel
theorem dX4_ways_140 : decode cX4_ways 140 = .ok (.aload_n 0, 1) := by decide +kernel
theorem dX4_ways_141 : decode cX4_ways 141 = .ok (.getfield 44, 3) := by decide +kernel
theorem dX4_ways_144 : decode cX4_ways 144 = .ok (.iload_n 1, 1) := by decide +kernel
theorem dX4_ways_145 : decode cX4_ways 145 = .ok (.iaload, 1) := by decide +kernel
theorem dX4_ways_146 : decode cX4_ways 146 = .ok (.isub, 1) := by decide +kernel
theorem dX4_ways_147 : decode cX4_ways 147 = .ok (.iload_n 2, 1) := by decide +kernel
theorem dX4_ways_148 : decode cX4_ways 148 = .ok (.if_icmp .lt 7, 3) := by decide +kernel
theorem dX4_ways_151 : decode cX4_ways 151 = .ok (.iconst 1, 1) := by decide +kernel
theorem dX4_ways_152 : decode cX4_ways 152 = .ok (.goto 4, 3) := by decide +kernel
theorem dX4_ways_155 : decode cX4_ways 155 = .ok (.iconst 0, 1) := by decide +kernel
theorem dX4_ways_156 : decode cX4_ways 156 = .ok (.i2l, 1) := by decide +kernel
theorem dX4_ways_157 : decode cX4_ways 157 = .ok (.lmul, 1) := by decide +kernel
theorem dX4_ways_158 : decode cX4_ways 158 = .ok (.ladd, 1) := by decide +kernel
theorem dX4_ways_159 : decode cX4_ways 159 = .ok (.lstore 4, 2) := by decide +kernel
theorem dX4_ways_161 : decode cX4_ways 161 = .ok (.iinc 6 1, 3) := by decide +kernel
theorem dX4_ways_164 : decode cX4_ways 164 = .ok (.goto (-158), 3) := by decide +kernel
theorem dX4_ways_167 : decode cX4_ways 167 = .ok (.lload 4, 2) := by decide +kernel
theorem dX4_ways_169 : decode cX4_ways 169 = .ok (.lreturn, 1) := by decide +kernel
theorem dX4_allWays_0 : decode cX4_allWays 0 = .ok (.lconst 1, 1) := by decide +kernel
theorem dX4_allWays_1 : decode cX4_allWays 1 = .ok (.lstore_n 1, 1) := by decide +kernel
theorem dX4_allWays_2 : decode cX4_allWays 2 = .ok (.iconst 0, 1) := by decide +kernel
theorem dX4_allWays_3 : decode cX4_allWays 3 = .ok (.istore_n 3, 1) := by decide +kernel
theorem dX4_allWays_4 : decode cX4_allWays 4 = .ok (.iload_n 3, 1) := by decide +kernel
theorem dX4_allWays_5 : decode cX4_allWays 5 = .ok (.aload_n 0, 1) := by decide +kernel
theorem dX4_allWays_6 : decode cX4_allWays 6 = .ok (.getfield 136, 3) := by decide +kernel
theorem dX4_allWays_9 : decode cX4_allWays 9 = .ok (.if_icmp .ge 15, 3) := by decide +kernel
theorem dX4_allWays_12 : decode cX4_allWays 12 = .ok (.lload_n 1, 1) := by decide +kernel
theorem dX4_allWays_13 : decode cX4_allWays 13 = .ok (.ldc2_w 237, 3) := by decide +kernel
theorem dX4_allWays_16 : decode cX4_allWays 16 = .ok (.lmul, 1) := by decide +kernel
theorem dX4_allWays_17 : decode cX4_allWays 17 = .ok (.lstore_n 1, 1) := by decide +kernel
theorem dX4_allWays_18 : decode cX4_allWays 18 = .ok (.iinc 3 1, 3) := by decide +kernel
theorem dX4_allWays_21 : decode cX4_allWays 21 = .ok (.goto (-17), 3) := by decide +kernel
theorem dX4_allWays_24 : decode cX4_allWays 24 = .ok (.lload_n 1, 1) := by decide +kernel
theorem dX4_allWays_25 : decode cX4_allWays 25 = .ok (.lreturn, 1) := by decide +kernel
theorem dX4_odds_0 : decode cX4_odds 0 = .ok (.aload_n 0, 1) := by decide +kernel
theorem dX4_odds_1 : decode cX4_odds 1 = .ok (.iload_n 1, 1) := by decide +kernel
theorem dX4_odds_2 : decode cX4_odds 2 = .ok (.invokevirtual 157, 3) := by decide +kernel
theorem dX4_odds_5 : decode cX4_odds 5 = .ok (.ifCond .eq 45, 3) := by decide +kernel
theorem dX4_odds_8 : decode cX4_odds 8 = .ok (.iload_n 2, 1) := by decide +kernel
theorem dX4_odds_9 : decode cX4_odds 9 = .ok (.i2l, 1) := by decide +kernel
theorem dX4_odds_10 : decode cX4_odds 10 = .ok (.lconst 0, 1) := by decide +kernel
theorem dX4_odds_11 : decode cX4_odds 11 = .ok (.ldc2_w 197, 3) := by decide +kernel
theorem dX4_odds_14 : decode cX4_odds 14 = .ok (.invokestatic 74, 3) := by decide +kernel
theorem dX4_odds_17 : decode cX4_odds 17 = .ok (.ifCond .eq 33, 3) := by decide +kernel
theorem dX4_odds_20 : decode cX4_odds 20 = .ok (.iload_n 3, 1) := by decide +kernel
theorem dX4_odds_21 : decode cX4_odds 21 = .ok (.i2l, 1) := by decide +kernel
theorem dX4_odds_22 : decode cX4_odds 22 = .ok (.lconst 0, 1) := by decide +kernel
theorem dX4_odds_23 : decode cX4_odds 23 = .ok (.ldc2_w 237, 3) := by decide +kernel
theorem dX4_odds_26 : decode cX4_odds 26 = .ok (.invokestatic 74, 3) := by decide +kernel
theorem dX4_odds_29 : decode cX4_odds 29 = .ok (.ifCond .eq 21, 3) := by decide +kernel
theorem dX4_odds_32 : decode cX4_odds 32 = .ok (.aload_n 0, 1) := by decide +kernel
theorem dX4_odds_33 : decode cX4_odds 33 = .ok (.aload_n 0, 1) := by decide +kernel
theorem dX4_odds_34 : decode cX4_odds 34 = .ok (.iload_n 1, 1) := by decide +kernel
theorem dX4_odds_35 : decode cX4_odds 35 = .ok (.iload_n 2, 1) := by decide +kernel
theorem dX4_odds_36 : decode cX4_odds 36 = .ok (.iload_n 3, 1) := by decide +kernel
theorem dX4_odds_37 : decode cX4_odds 37 = .ok (.invokevirtual 239, 3) := by decide +kernel
theorem dX4_odds_40 : decode cX4_odds 40 = .ok (.aload_n 0, 1) := by decide +kernel
theorem dX4_odds_41 : decode cX4_odds 41 = .ok (.invokevirtual 243, 3) := by decide +kernel
theorem dX4_odds_44 : decode cX4_odds 44 = .ok (.invokevirtual 247, 3) := by decide +kernel
theorem dX4_odds_47 : decode cX4_odds 47 = .ok (.goto 4, 3) := by decide +kernel
theorem dX4_odds_50 : decode cX4_odds 50 = .ok (.iconst (-1), 1) := by decide +kernel
theorem dX4_odds_51 : decode cX4_odds 51 = .ok (.ireturn, 1) := by decide +kernel
theorem dX4_mid_0 : decode cX4_mid 0 = .ok (.iload_n 1, 1) := by decide +kernel
theorem dX4_mid_1 : decode cX4_mid 1 = .ok (.i2l, 1) := by decide +kernel
theorem dX4_mid_2 : decode cX4_mid 2 = .ok (.lconst 0, 1) := by decide +kernel
theorem dX4_mid_3 : decode cX4_mid 3 = .ok (.ldc2_w 237, 3) := by decide +kernel
theorem dX4_mid_6 : decode cX4_mid 6 = .ok (.invokestatic 74, 3) := by decide +kernel
theorem dX4_mid_9 : decode cX4_mid 9 = .ok (.ifCond .ne 5, 3) := by decide +kernel
theorem dX4_mid_12 : decode cX4_mid 12 = .ok (.iconst (-1), 1) := by decide +kernel
theorem dX4_mid_13 : decode cX4_mid 13 = .ok (.ireturn, 1) := by decide +kernel
theorem dX4_mid_14 : decode cX4_mid 14 = .ok (.aload_n 0, 1) := by decide +kernel
theorem dX4_mid_15 : decode cX4_mid 15 = .ok (.getfield 136, 3) := by decide +kernel
theorem dX4_mid_18 : decode cX4_mid 18 = .ok (.ifCond .ne 8, 3) := by decide +kernel
theorem dX4_mid_21 : decode cX4_mid 21 = .ok (.bipush (-4), 2) := by decide +kernel
theorem dX4_mid_23 : decode cX4_mid 23 = .ok (.goto 19, 3) := by decide +kernel
theorem dX4_mid_26 : decode cX4_mid 26 = .ok (.aload_n 0, 1) := by decide +kernel
theorem dX4_mid_27 : decode cX4_mid 27 = .ok (.aload_n 0, 1) := by decide +kernel
theorem dX4_mid_28 : decode cX4_mid 28 = .ok (.bipush (-9), 2) := by decide +kernel
theorem dX4_mid_30 : decode cX4_mid 30 = .ok (.iconst 0, 1) := by decide +kernel
theorem dX4_mid_31 : decode cX4_mid 31 = .ok (.iload_n 1, 1) := by decide +kernel
theorem dX4_mid_32 : decode cX4_mid 32 = .ok (.invokevirtual 239, 3) := by decide +kernel
theorem dX4_mid_35 : decode cX4_mid 35 = .ok (.aload_n 0, 1) := by decide +kernel
theorem dX4_mid_36 : decode cX4_mid 36 = .ok (.invokevirtual 243, 3) := by decide +kernel
theorem dX4_mid_39 : decode cX4_mid 39 = .ok (.invokevirtual 247, 3) := by decide +kernel
theorem dX4_mid_42 : decode cX4_mid 42 = .ok (.ireturn, 1) := by decide +kernel
theorem dX4_lot_0 : decode cX4_lot 0 = .ok (.iload_n 1, 1) := by decide +kernel
theorem dX4_lot_1 : decode cX4_lot 1 = .ok (.bipush 8, 2) := by decide +kernel
theorem dX4_lot_3 : decode cX4_lot 3 = .ok (.idiv, 1) := by decide +kernel
theorem dX4_lot_4 : decode cX4_lot 4 = .ok (.aload_n 0, 1) := by decide +kernel
theorem dX4_lot_5 : decode cX4_lot 5 = .ok (.getfield 136, 3) := by decide +kernel
theorem dX4_lot_8 : decode cX4_lot 8 = .ok (.irem, 1) := by decide +kernel
theorem dX4_lot_9 : decode cX4_lot 9 = .ok (.istore_n 2, 1) := by decide +kernel
theorem dX4_lot_10 : decode cX4_lot 10 = .ok (.aload_n 0, 1) := by decide +kernel
theorem dX4_lot_11 : decode cX4_lot 11 = .ok (.invokevirtual 178, 3) := by decide +kernel
theorem dX4_lot_14 : decode cX4_lot 14 = .ok (.iload_n 1, 1) := by decide +kernel
theorem dX4_lot_15 : decode cX4_lot 15 = .ok (.iconst 4, 1) := by decide +kernel
theorem dX4_lot_16 : decode cX4_lot 16 = .ok (.irem, 1) := by decide +kernel
theorem dX4_lot_17 : decode cX4_lot 17 = .ok (.ifCond .ne 43, 3) := by decide +kernel
theorem dX4_lot_20 : decode cX4_lot 20 = .ok (.aload_n 0, 1) := by decide +kernel
theorem dX4_lot_21 : decode cX4_lot 21 = .ok (.getfield 38, 3) := by decide +kernel
theorem dX4_lot_24 : decode cX4_lot 24 = .ok (.bipush 7, 2) := by decide +kernel
theorem dX4_lot_26 : decode cX4_lot 26 = .ok (.iload_n 2, 1) := by decide +kernel
theorem dX4_lot_27 : decode cX4_lot 27 = .ok (.iadd, 1) := by decide +kernel
theorem dX4_lot_28 : decode cX4_lot 28 = .ok (.aload_n 0, 1) := by decide +kernel
theorem dX4_lot_29 : decode cX4_lot 29 = .ok (.getfield 38, 3) := by decide +kernel
theorem dX4_lot_32 : decode cX4_lot 32 = .ok (.bipush 7, 2) := by decide +kernel
theorem dX4_lot_34 : decode cX4_lot 34 = .ok (.iload_n 2, 1) := by decide +kernel
theorem dX4_lot_35 : decode cX4_lot 35 = .ok (.iadd, 1) := by decide +kernel
theorem dX4_lot_36 : decode cX4_lot 36 = .ok (.iaload, 1) := by decide +kernel
theorem dX4_lot_37 : decode cX4_lot 37 = .ok (.iconst 3, 1) := by decide +kernel
theorem dX4_lot_38 : decode cX4_lot 38 = .ok (.if_icmp .ne 7, 3) := by decide +kernel
theorem dX4_lot_41 : decode cX4_lot 41 = .ok (.iconst 0, 1) := by decide +kernel
theorem dX4_lot_42 : decode cX4_lot 42 = .ok (.goto 14, 3) := by decide +kernel
theorem dX4_lot_45 : decode cX4_lot 45 = .ok (.aload_n 0, 1) := by decide +kernel
theorem dX4_lot_46 : decode cX4_lot 46 = .ok (.getfield 38, 3) := by decide +kernel
theorem dX4_lot_49 : decode cX4_lot 49 = .ok (.bipush 7, 2) := by decide +kernel
theorem dX4_lot_51 : decode cX4_lot 51 = .ok (.iload_n 2, 1) := by decide +kernel
theorem dX4_lot_52 : decode cX4_lot 52 = .ok (.iadd, 1) := by decide +kernel
theorem dX4_lot_53 : decode cX4_lot 53 = .ok (.iaload, 1) := by decide +kernel
theorem dX4_lot_54 : decode cX4_lot 54 = .ok (.iconst 1, 1) := by decide +kernel
theorem dX4_lot_55 : decode cX4_lot 55 = .ok (.iadd, 1) := by decide +kernel
theorem dX4_lot_56 : decode cX4_lot 56 = .ok (.iastore, 1) := by decide +kernel
theorem dX4_lot_57 : decode cX4_lot 57 = .ok (.goto 43, 3) := by decide +kernel
theorem dX4_lot_60 : decode cX4_lot 60 = .ok (.iload_n 1, 1) := by decide +kernel
theorem dX4_lot_61 : decode cX4_lot 61 = .ok (.iconst 4, 1) := by decide +kernel
theorem dX4_lot_62 : decode cX4_lot 62 = .ok (.irem, 1) := by decide +kernel
theorem dX4_lot_63 : decode cX4_lot 63 = .ok (.iconst 1, 1) := by decide +kernel
theorem dX4_lot_64 : decode cX4_lot 64 = .ok (.if_icmp .ne 16, 3) := by decide +kernel
theorem dX4_lot_67 : decode cX4_lot 67 = .ok (.aload_n 0, 1) := by decide +kernel
theorem dX4_lot_68 : decode cX4_lot 68 = .ok (.getfield 38, 3) := by decide +kernel
theorem dX4_lot_71 : decode cX4_lot 71 = .ok (.bipush 7, 2) := by decide +kernel
theorem dX4_lot_73 : decode cX4_lot 73 = .ok (.iload_n 2, 1) := by decide +kernel
theorem dX4_lot_74 : decode cX4_lot 74 = .ok (.iadd, 1) := by decide +kernel
theorem dX4_lot_75 : decode cX4_lot 75 = .ok (.iconst 0, 1) := by decide +kernel
theorem dX4_lot_76 : decode cX4_lot 76 = .ok (.iastore, 1) := by decide +kernel
theorem dX4_lot_77 : decode cX4_lot 77 = .ok (.goto 23, 3) := by decide +kernel
theorem dX4_lot_80 : decode cX4_lot 80 = .ok (.aload_n 0, 1) := by decide +kernel
theorem dX4_lot_81 : decode cX4_lot 81 = .ok (.getfield 38, 3) := by decide +kernel
theorem dX4_lot_84 : decode cX4_lot 84 = .ok (.iconst 0, 1) := by decide +kernel
theorem dX4_lot_85 : decode cX4_lot 85 = .ok (.iaload, 1) := by decide +kernel
theorem dX4_lot_86 : decode cX4_lot 86 = .ok (.bipush 99, 2) := by decide +kernel
theorem dX4_lot_88 : decode cX4_lot 88 = .ok (.if_icmp .ge 12, 3) := by decide +kernel
theorem dX4_lot_91 : decode cX4_lot 91 = .ok (.aload_n 0, 1) := by decide +kernel
theorem dX4_lot_92 : decode cX4_lot 92 = .ok (.aload_n 0, 1) := by decide +kernel
theorem dX4_lot_93 : decode cX4_lot 93 = .ok (.getfield 38, 3) := by decide +kernel
theorem dX4_lot_96 : decode cX4_lot 96 = .ok (.invokevirtual 181, 3) := by decide +kernel
theorem dX4_lot_99 : decode cX4_lot 99 = .ok (.istore_n 3, 1) := by decide +kernel
theorem dX4_lot_100 : decode cX4_lot 100 = .ok (.return_, 1) := by decide +kernel
theorem dX4_purses_0 : decode cX4_purses 0 = .ok (.iconst 0, 1) := by decide +kernel
theorem dX4_purses_1 : decode cX4_purses 1 = .ok (.istore_n 1, 1) := by decide +kernel
theorem dX4_purses_2 : decode cX4_purses 2 = .ok (.iconst 0, 1) := by decide +kernel
theorem dX4_purses_3 : decode cX4_purses 3 = .ok (.istore_n 2, 1) := by decide +kernel
theorem dX4_purses_4 : decode cX4_purses 4 = .ok (.iload_n 2, 1) := by decide +kernel
theorem dX4_purses_5 : decode cX4_purses 5 = .ok (.aload_n 0, 1) := by decide +kernel
theorem dX4_purses_6 : decode cX4_purses 6 = .ok (.getfield 136, 3) := by decide +kernel
theorem dX4_purses_9 : decode cX4_purses 9 = .ok (.if_icmp .ge 20, 3) := by decide +kernel
theorem dX4_purses_12 : decode cX4_purses 12 = .ok (.iload_n 1, 1) := by decide +kernel
theorem dX4_purses_13 : decode cX4_purses 13 = .ok (.aload_n 0, 1) := by decide +kernel
theorem dX4_purses_14 : decode cX4_purses 14 = .ok (.getfield 38, 3) := by decide +kernel
theorem dX4_purses_17 : decode cX4_purses 17 = .ok (.iconst 1, 1) := by decide +kernel
theorem dX4_purses_18 : decode cX4_purses 18 = .ok (.iload_n 2, 1) := by decide +kernel
theorem dX4_purses_19 : decode cX4_purses 19 = .ok (.iadd, 1) := by decide +kernel
theorem dX4_purses_20 : decode cX4_purses 20 = .ok (.iaload, 1) := by decide +kernel
theorem dX4_purses_21 : decode cX4_purses 21 = .ok (.iadd, 1) := by decide +kernel
theorem dX4_purses_22 : decode cX4_purses 22 = .ok (.istore_n 1, 1) := by decide +kernel
theorem dX4_purses_23 : decode cX4_purses 23 = .ok (.iinc 2 1, 3) := by decide +kernel
theorem dX4_purses_26 : decode cX4_purses 26 = .ok (.goto (-22), 3) := by decide +kernel
theorem dX4_purses_29 : decode cX4_purses 29 = .ok (.iload_n 1, 1) := by decide +kernel
theorem dX4_purses_30 : decode cX4_purses 30 = .ok (.ireturn, 1) := by decide +kernel
theorem dX4_lots_0 : decode cX4_lots 0 = .ok (.iload_n 1, 1) := by decide +kernel
theorem dX4_lots_1 : decode cX4_lots 1 = .ok (.i2l, 1) := by decide +kernel
theorem dX4_lots_2 : decode cX4_lots 2 = .ok (.lconst 1, 1) := by decide +kernel
theorem dX4_lots_3 : decode cX4_lots 3 = .ok (.ldc2_w 202, 3) := by decide +kernel
theorem dX4_lots_6 : decode cX4_lots 6 = .ok (.invokestatic 74, 3) := by decide +kernel
theorem dX4_lots_9 : decode cX4_lots 9 = .ok (.ifCond .eq 15, 3) := by decide +kernel
theorem dX4_lots_12 : decode cX4_lots 12 = .ok (.iload_n 2, 1) := by decide +kernel
theorem dX4_lots_13 : decode cX4_lots 13 = .ok (.i2l, 1) := by decide +kernel
theorem dX4_lots_14 : decode cX4_lots 14 = .ok (.lconst 1, 1) := by decide +kernel
theorem dX4_lots_15 : decode cX4_lots 15 = .ok (.ldc2_w 251, 3) := by decide +kernel
theorem dX4_lots_18 : decode cX4_lots 18 = .ok (.invokestatic 74, 3) := by decide +kernel
theorem dX4_lots_21 : decode cX4_lots 21 = .ok (.ifCond .ne 5, 3) := by decide +kernel
theorem dX4_lots_24 : decode cX4_lots 24 = .ok (.iconst (-1), 1) := by decide +kernel
theorem dX4_lots_25 : decode cX4_lots 25 = .ok (.ireturn, 1) := by decide +kernel
theorem dX4_lots_26 : decode cX4_lots 26 = .ok (.aload_n 0, 1) := by decide +kernel
theorem dX4_lots_27 : decode cX4_lots 27 = .ok (.iload_n 1, 1) := by decide +kernel
theorem dX4_lots_28 : decode cX4_lots 28 = .ok (.invokevirtual 253, 3) := by decide +kernel
theorem dX4_lots_31 : decode cX4_lots 31 = .ok (.istore_n 3, 1) := by decide +kernel
theorem dX4_lots_32 : decode cX4_lots 32 = .ok (.iload_n 3, 1) := by decide +kernel
theorem dX4_lots_33 : decode cX4_lots 33 = .ok (.ifCond .eq 5, 3) := by decide +kernel
theorem dX4_lots_36 : decode cX4_lots 36 = .ok (.iload_n 3, 1) := by decide +kernel
theorem dX4_lots_37 : decode cX4_lots 37 = .ok (.ireturn, 1) := by decide +kernel
theorem dX4_lots_38 : decode cX4_lots 38 = .ok (.iload_n 2, 1) := by decide +kernel
theorem dX4_lots_39 : decode cX4_lots 39 = .ok (.i2l, 1) := by decide +kernel
theorem dX4_lots_40 : decode cX4_lots 40 = .ok (.lstore 4, 2) := by decide +kernel
theorem dX4_lots_42 : decode cX4_lots 42 = .ok (.iconst 0, 1) := by decide +kernel
theorem dX4_lots_43 : decode cX4_lots 43 = .ok (.istore 6, 2) := by decide +kernel
theorem dX4_lots_45 : decode cX4_lots 45 = .ok (.iload 6, 2) := by decide +kernel
theorem dX4_lots_47 : decode cX4_lots 47 = .ok (.iload_n 1, 1) := by decide +kernel
theorem dX4_lots_48 : decode cX4_lots 48 = .ok (.if_icmp .ge 28, 3) := by decide +kernel
theorem dX4_lots_51 : decode cX4_lots 51 = .ok (.lload 4, 2) := by decide +kernel
theorem dX4_lots_53 : decode cX4_lots 53 = .ok (.ldc2_w 256, 3) := by decide +kernel
theorem dX4_lots_56 : decode cX4_lots 56 = .ok (.lmul, 1) := by decide +kernel
theorem dX4_lots_57 : decode cX4_lots 57 = .ok (.ldc2_w 258, 3) := by decide +kernel
theorem dX4_lots_60 : decode cX4_lots 60 = .ok (.lrem, 1) := by decide +kernel
theorem dX4_lots_61 : decode cX4_lots 61 = .ok (.lstore 4, 2) := by decide +kernel
theorem dX4_lots_63 : decode cX4_lots 63 = .ok (.aload_n 0, 1) := by decide +kernel
theorem dX4_lots_64 : decode cX4_lots 64 = .ok (.lload 4, 2) := by decide +kernel
theorem dX4_lots_66 : decode cX4_lots 66 = .ok (.l2i, 1) := by decide +kernel
theorem dX4_lots_67 : decode cX4_lots 67 = .ok (.invokevirtual 260, 3) := by decide +kernel
theorem dX4_lots_70 : decode cX4_lots 70 = .ok (.iinc 6 1, 3) := by decide +kernel
theorem dX4_lots_73 : decode cX4_lots 73 = .ok (.goto (-28), 3) := by decide +kernel
theorem dX4_lots_76 : decode cX4_lots 76 = .ok (.aload_n 0, 1) := by decide +kernel
theorem dX4_lots_77 : decode cX4_lots 77 = .ok (.invokevirtual 264, 3) := by decide +kernel
theorem dX4_lots_80 : decode cX4_lots 80 = .ok (.ireturn, 1) := by decide +kernel
theorem dX4_asked_0 : decode cX4_asked 0 = .ok (.aload_n 0, 1) := by decide +kernel
theorem dX4_asked_1 : decode cX4_asked 1 = .ok (.getfield 69, 3) := by decide +kernel
theorem dX4_asked_4 : decode cX4_asked 4 = .ok (.ireturn, 1) := by decide +kernel
theorem dX4_upper_0 : decode cX4_upper 0 = .ok (.aload_n 0, 1) := by decide +kernel
theorem dX4_upper_1 : decode cX4_upper 1 = .ok (.getfield 234, 3) := by decide +kernel
theorem dX4_upper_4 : decode cX4_upper 4 = .ok (.lreturn, 1) := by decide +kernel
theorem dX4_lower_0 : decode cX4_lower 0 = .ok (.aload_n 0, 1) := by decide +kernel
theorem dX4_lower_1 : decode cX4_lower 1 = .ok (.getfield 22, 3) := by decide +kernel
theorem dX4_lower_4 : decode cX4_lower 4 = .ok (.lreturn, 1) := by decide +kernel
theorem dX4_there_0 : decode cX4_there 0 = .ok (.iconst 0, 1) := by decide +kernel
theorem dX4_there_1 : decode cX4_there 1 = .ok (.istore_n 3, 1) := by decide +kernel
theorem dX4_there_2 : decode cX4_there 2 = .ok (.iconst 0, 1) := by decide +kernel
theorem dX4_there_3 : decode cX4_there 3 = .ok (.istore 4, 2) := by decide +kernel
theorem dX4_there_5 : decode cX4_there 5 = .ok (.iload 4, 2) := by decide +kernel
theorem dX4_there_7 : decode cX4_there 7 = .ok (.iload_n 1, 1) := by decide +kernel
theorem dX4_there_8 : decode cX4_there 8 = .ok (.if_icmp .ge 26, 3) := by decide +kernel
theorem dX4_there_11 : decode cX4_there 11 = .ok (.iload_n 3, 1) := by decide +kernel
theorem dX4_there_12 : decode cX4_there 12 = .ok (.aload_n 0, 1) := by decide +kernel
theorem dX4_there_13 : decode cX4_there 13 = .ok (.iload_n 2, 1) := by decide +kernel
theorem dX4_there_14 : decode cX4_there 14 = .ok (.iload 4, 2) := by decide +kernel
theorem dX4_there_16 : decode cX4_there 16 = .ok (.imul, 1) := by decide +kernel
theorem dX4_there_17 : decode cX4_there 17 = .ok (.iaload, 1) := by decide +kernel
theorem dX4_there_18 : decode cX4_there 18 = .ok (.ifCond .ge 7, 3) := by decide +kernel
theorem dX4_there_21 : decode cX4_there 21 = .ok (.iconst 0, 1) := by decide +kernel
theorem dX4_there_22 : decode cX4_there 22 = .ok (.goto 4, 3) := by decide +kernel
theorem dX4_there_25 : decode cX4_there 25 = .ok (.iconst 1, 1) := by decide +kernel
theorem dX4_there_26 : decode cX4_there 26 = .ok (.iadd, 1) := by decide +kernel
theorem dX4_there_27 : decode cX4_there 27 = .ok (.istore_n 3, 1) := by decide +kernel
theorem dX4_there_28 : decode cX4_there 28 = .ok (.iinc 4 1, 3) := by decide +kernel
theorem dX4_there_31 : decode cX4_there 31 = .ok (.goto (-26), 3) := by decide +kernel
theorem dX4_there_34 : decode cX4_there 34 = .ok (.iload_n 3, 1) := by decide +kernel
theorem dX4_there_35 : decode cX4_there 35 = .ok (.ireturn, 1) := by decide +kernel
theorem dX4_ofKind_0 : decode cX4_ofKind 0 = .ok (.iconst 0, 1) := by decide +kernel
theorem dX4_ofKind_1 : decode cX4_ofKind 1 = .ok (.istore_n 2, 1) := by decide +kernel
theorem dX4_ofKind_2 : decode cX4_ofKind 2 = .ok (.iconst 0, 1) := by decide +kernel
theorem dX4_ofKind_3 : decode cX4_ofKind 3 = .ok (.istore_n 3, 1) := by decide +kernel
theorem dX4_ofKind_4 : decode cX4_ofKind 4 = .ok (.iload_n 3, 1) := by decide +kernel
theorem dX4_ofKind_5 : decode cX4_ofKind 5 = .ok (.aload_n 0, 1) := by decide +kernel
theorem dX4_ofKind_6 : decode cX4_ofKind 6 = .ok (.getfield 136, 3) := by decide +kernel
theorem dX4_ofKind_9 : decode cX4_ofKind 9 = .ok (.if_icmp .ge 30, 3) := by decide +kernel
theorem dX4_ofKind_12 : decode cX4_ofKind 12 = .ok (.iload_n 2, 1) := by decide +kernel
theorem dX4_ofKind_13 : decode cX4_ofKind 13 = .ok (.aload_n 0, 1) := by decide +kernel
theorem dX4_ofKind_14 : decode cX4_ofKind 14 = .ok (.getfield 29, 3) := by decide +kernel
theorem dX4_ofKind_17 : decode cX4_ofKind 17 = .ok (.iload_n 3, 1) := by decide +kernel
theorem dX4_ofKind_18 : decode cX4_ofKind 18 = .ok (.iaload, 1) := by decide +kernel
theorem dX4_ofKind_19 : decode cX4_ofKind 19 = .ok (.iload_n 1, 1) := by decide +kernel
theorem dX4_ofKind_20 : decode cX4_ofKind 20 = .ok (.invokestatic 168, 3) := by decide +kernel
theorem dX4_ofKind_23 : decode cX4_ofKind 23 = .ok (.ifCond .eq 7, 3) := by decide +kernel
theorem dX4_ofKind_26 : decode cX4_ofKind 26 = .ok (.iconst 1, 1) := by decide +kernel
theorem dX4_ofKind_27 : decode cX4_ofKind 27 = .ok (.goto 4, 3) := by decide +kernel
theorem dX4_ofKind_30 : decode cX4_ofKind 30 = .ok (.iconst 0, 1) := by decide +kernel
theorem dX4_ofKind_31 : decode cX4_ofKind 31 = .ok (.iadd, 1) := by decide +kernel
theorem dX4_ofKind_32 : decode cX4_ofKind 32 = .ok (.istore_n 2, 1) := by decide +kernel
theorem dX4_ofKind_33 : decode cX4_ofKind 33 = .ok (.iinc 3 1, 3) := by decide +kernel
theorem dX4_ofKind_36 : decode cX4_ofKind 36 = .ok (.goto (-32), 3) := by decide +kernel
theorem dX4_ofKind_39 : decode cX4_ofKind 39 = .ok (.iload_n 2, 1) := by decide +kernel
theorem dX4_ofKind_40 : decode cX4_ofKind 40 = .ok (.ireturn, 1) := by decide +kernel
theorem dX4_sooted_0 : decode cX4_sooted 0 = .ok (.iconst 0, 1) := by decide +kernel
theorem dX4_sooted_1 : decode cX4_sooted 1 = .ok (.istore_n 1, 1) := by decide +kernel
theorem dX4_sooted_2 : decode cX4_sooted 2 = .ok (.iconst 0, 1) := by decide +kernel
theorem dX4_sooted_3 : decode cX4_sooted 3 = .ok (.istore_n 2, 1) := by decide +kernel
theorem dX4_sooted_4 : decode cX4_sooted 4 = .ok (.iload_n 2, 1) := by decide +kernel
theorem dX4_sooted_5 : decode cX4_sooted 5 = .ok (.aload_n 0, 1) := by decide +kernel
theorem dX4_sooted_6 : decode cX4_sooted 6 = .ok (.getfield 136, 3) := by decide +kernel
theorem dX4_sooted_9 : decode cX4_sooted 9 = .ok (.if_icmp .ge 31, 3) := by decide +kernel
theorem dX4_sooted_12 : decode cX4_sooted 12 = .ok (.iload_n 1, 1) := by decide +kernel
theorem dX4_sooted_13 : decode cX4_sooted 13 = .ok (.aload_n 0, 1) := by decide +kernel
theorem dX4_sooted_14 : decode cX4_sooted 14 = .ok (.getfield 38, 3) := by decide +kernel
theorem dX4_sooted_17 : decode cX4_sooted 17 = .ok (.bipush 7, 2) := by decide +kernel
theorem dX4_sooted_19 : decode cX4_sooted 19 = .ok (.iload_n 2, 1) := by decide +kernel
theorem dX4_sooted_20 : decode cX4_sooted 20 = .ok (.iadd, 1) := by decide +kernel
theorem dX4_sooted_21 : decode cX4_sooted 21 = .ok (.iaload, 1) := by decide +kernel
theorem dX4_sooted_22 : decode cX4_sooted 22 = .ok (.ifCond .le 9, 3) := by decide +kernel
theorem dX4_sooted_25 : decode cX4_sooted 25 = .ok (.iconst 1, 1) := by decide +kernel
theorem dX4_sooted_26 : decode cX4_sooted 26 = .ok (.iload_n 2, 1) := by decide +kernel
theorem dX4_sooted_27 : decode cX4_sooted 27 = .ok (.ishl, 1) := by decide +kernel
theorem dX4_sooted_28 : decode cX4_sooted 28 = .ok (.goto 4, 3) := by decide +kernel
theorem dX4_sooted_31 : decode cX4_sooted 31 = .ok (.iconst 0, 1) := by decide +kernel
theorem dX4_sooted_32 : decode cX4_sooted 32 = .ok (.ior, 1) := by decide +kernel
theorem dX4_sooted_33 : decode cX4_sooted 33 = .ok (.istore_n 1, 1) := by decide +kernel
theorem dX4_sooted_34 : decode cX4_sooted 34 = .ok (.iinc 2 1, 3) := by decide +kernel
theorem dX4_sooted_37 : decode cX4_sooted 37 = .ok (.goto (-33), 3) := by decide +kernel
theorem dX4_sooted_40 : decode cX4_sooted 40 = .ok (.iload_n 1, 1) := by decide +kernel
theorem dX4_sooted_41 : decode cX4_sooted 41 = .ok (.ireturn, 1) := by decide +kernel
theorem dX4_count_0 : decode cX4_count 0 = .ok (.iload_n 1, 1) := by decide +kernel
theorem dX4_count_1 : decode cX4_count 1 = .ok (.tableswitch 140 0 10 #[59, 64, 71, 76, 81, 86, 95, 106, 116, 128, 134], 59) := by decide +kernel
theorem dX4_count_60 : decode cX4_count 60 = .ok (.aload_n 0, 1) := by decide +kernel
theorem dX4_count_61 : decode cX4_count 61 = .ok (.getfield 136, 3) := by decide +kernel
theorem dX4_count_64 : decode cX4_count 64 = .ok (.ireturn, 1) := by decide +kernel
theorem dX4_count_65 : decode cX4_count 65 = .ok (.aload_n 0, 1) := by decide +kernel
theorem dX4_count_66 : decode cX4_count 66 = .ok (.getfield 38, 3) := by decide +kernel
theorem dX4_count_69 : decode cX4_count 69 = .ok (.iconst 0, 1) := by decide +kernel
theorem dX4_count_70 : decode cX4_count 70 = .ok (.iaload, 1) := by decide +kernel
theorem dX4_count_71 : decode cX4_count 71 = .ok (.ireturn, 1) := by decide +kernel
theorem dX4_count_72 : decode cX4_count 72 = .ok (.aload_n 0, 1) := by decide +kernel
theorem dX4_count_73 : decode cX4_count 73 = .ok (.getfield 94, 3) := by decide +kernel
theorem dX4_count_76 : decode cX4_count 76 = .ok (.ireturn, 1) := by decide +kernel
theorem dX4_count_77 : decode cX4_count 77 = .ok (.aload_n 0, 1) := by decide +kernel
theorem dX4_count_78 : decode cX4_count 78 = .ok (.invokevirtual 264, 3) := by decide +kernel
theorem dX4_count_81 : decode cX4_count 81 = .ok (.ireturn, 1) := by decide +kernel
theorem dX4_count_82 : decode cX4_count 82 = .ok (.aload_n 0, 1) := by decide +kernel
theorem dX4_count_83 : decode cX4_count 83 = .ok (.invokevirtual 267, 3) := by decide +kernel
theorem dX4_count_86 : decode cX4_count 86 = .ok (.ireturn, 1) := by decide +kernel
theorem dX4_count_87 : decode cX4_count 87 = .ok (.aload_n 0, 1) := by decide +kernel
theorem dX4_count_88 : decode cX4_count 88 = .ok (.aload_n 0, 1) := by decide +kernel
theorem dX4_count_89 : decode cX4_count 89 = .ok (.getfield 38, 3) := by decide +kernel
theorem dX4_count_92 : decode cX4_count 92 = .ok (.invokevirtual 150, 3) := by decide +kernel
theorem dX4_count_95 : decode cX4_count 95 = .ok (.ireturn, 1) := by decide +kernel
theorem dX4_count_96 : decode cX4_count 96 = .ok (.aload_n 0, 1) := by decide +kernel
theorem dX4_count_97 : decode cX4_count 97 = .ok (.getfield 13, 3) := by decide +kernel
theorem dX4_count_100 : decode cX4_count 100 = .ok (.bipush 6, 2) := by decide +kernel
theorem dX4_count_102 : decode cX4_count 102 = .ok (.iconst 1, 1) := by decide +kernel
theorem dX4_count_103 : decode cX4_count 103 = .ok (.invokestatic 270, 3) := by decide +kernel
theorem dX4_count_106 : decode cX4_count 106 = .ok (.ireturn, 1) := by decide +kernel
theorem dX4_count_107 : decode cX4_count 107 = .ok (.aload_n 0, 1) := by decide +kernel
theorem dX4_count_108 : decode cX4_count 108 = .ok (.getfield 19, 3) := by decide +kernel
theorem dX4_count_111 : decode cX4_count 111 = .ok (.iconst 4, 1) := by decide +kernel
theorem dX4_count_112 : decode cX4_count 112 = .ok (.iconst 1, 1) := by decide +kernel
theorem dX4_count_113 : decode cX4_count 113 = .ok (.invokestatic 270, 3) := by decide +kernel
theorem dX4_count_116 : decode cX4_count 116 = .ok (.ireturn, 1) := by decide +kernel
theorem dX4_count_117 : decode cX4_count 117 = .ok (.aload_n 0, 1) := by decide +kernel
theorem dX4_count_118 : decode cX4_count 118 = .ok (.getfield 50, 3) := by decide +kernel
theorem dX4_count_121 : decode cX4_count 121 = .ok (.iconst 3, 1) := by decide +kernel
theorem dX4_count_122 : decode cX4_count 122 = .ok (.sipush 534, 3) := by decide +kernel
theorem dX4_count_125 : decode cX4_count 125 = .ok (.invokestatic 270, 3) := by decide +kernel
theorem dX4_count_128 : decode cX4_count 128 = .ok (.ireturn, 1) := by decide +kernel
theorem dX4_count_129 : decode cX4_count 129 = .ok (.aload_n 0, 1) := by decide +kernel
theorem dX4_count_130 : decode cX4_count 130 = .ok (.iconst 1, 1) := by decide +kernel
theorem dX4_count_131 : decode cX4_count 131 = .ok (.invokevirtual 274, 3) := by decide +kernel
theorem dX4_count_134 : decode cX4_count 134 = .ok (.ireturn, 1) := by decide +kernel
theorem dX4_count_135 : decode cX4_count 135 = .ok (.aload_n 0, 1) := by decide +kernel
theorem dX4_count_136 : decode cX4_count 136 = .ok (.iconst 3, 1) := by decide +kernel
theorem dX4_count_137 : decode cX4_count 137 = .ok (.invokevirtual 274, 3) := by decide +kernel
theorem dX4_count_140 : decode cX4_count 140 = .ok (.ireturn, 1) := by decide +kernel
theorem dX4_count_141 : decode cX4_count 141 = .ok (.iconst (-1), 1) := by decide +kernel
theorem dX4_count_142 : decode cX4_count 142 = .ok (.ireturn, 1) := by decide +kernel
theorem dX4_finding_0 : decode cX4_finding 0 = .ok (.aload_n 0, 1) := by decide +kernel
theorem dX4_finding_1 : decode cX4_finding 1 = .ok (.getfield 65, 3) := by decide +kernel
theorem dX4_finding_4 : decode cX4_finding 4 = .ok (.ireturn, 1) := by decide +kernel
theorem dX4_findings_0 : decode cX4_findings 0 = .ok (.iload_n 1, 1) := by decide +kernel
theorem dX4_findings_1 : decode cX4_findings 1 = .ok (.i2l, 1) := by decide +kernel
theorem dX4_findings_2 : decode cX4_findings 2 = .ok (.lconst 1, 1) := by decide +kernel
theorem dX4_findings_3 : decode cX4_findings 3 = .ok (.ldc2_w 72, 3) := by decide +kernel
theorem dX4_findings_6 : decode cX4_findings 6 = .ok (.invokestatic 74, 3) := by decide +kernel
theorem dX4_findings_9 : decode cX4_findings 9 = .ok (.ifCond .eq 12, 3) := by decide +kernel
theorem dX4_findings_12 : decode cX4_findings 12 = .ok (.aload_n 0, 1) := by decide +kernel
theorem dX4_findings_13 : decode cX4_findings 13 = .ok (.getfield 26, 3) := by decide +kernel
theorem dX4_findings_16 : decode cX4_findings 16 = .ok (.iload_n 1, 1) := by decide +kernel
theorem dX4_findings_17 : decode cX4_findings 17 = .ok (.iaload, 1) := by decide +kernel
theorem dX4_findings_18 : decode cX4_findings 18 = .ok (.goto 4, 3) := by decide +kernel
theorem dX4_findings_21 : decode cX4_findings 21 = .ok (.iconst (-1), 1) := by decide +kernel
theorem dX4_findings_22 : decode cX4_findings 22 = .ok (.ireturn, 1) := by decide +kernel
theorem dX4_digest_0 : decode cX4_digest 0 = .ok (.ldc2_w 277, 3) := by decide +kernel
theorem dX4_digest_3 : decode cX4_digest 3 = .ok (.lstore_n 1, 1) := by decide +kernel
theorem dX4_digest_4 : decode cX4_digest 4 = .ok (.iconst 0, 1) := by decide +kernel
theorem dX4_digest_5 : decode cX4_digest 5 = .ok (.istore_n 3, 1) := by decide +kernel
theorem dX4_digest_6 : decode cX4_digest 6 = .ok (.iload_n 3, 1) := by decide +kernel
theorem dX4_digest_7 : decode cX4_digest 7 = .ok (.bipush 11, 2) := by decide +kernel
theorem dX4_digest_9 : decode cX4_digest 9 = .ok (.if_icmp .ge 22, 3) := by decide +kernel
theorem dX4_digest_12 : decode cX4_digest 12 = .ok (.ldc2_w 279, 3) := by decide +kernel
theorem dX4_digest_15 : decode cX4_digest 15 = .ok (.lload_n 1, 1) := by decide +kernel
theorem dX4_digest_16 : decode cX4_digest 16 = .ok (.lmul, 1) := by decide +kernel
theorem dX4_digest_17 : decode cX4_digest 17 = .ok (.aload_n 0, 1) := by decide +kernel
theorem dX4_digest_18 : decode cX4_digest 18 = .ok (.iload_n 3, 1) := by decide +kernel
theorem dX4_digest_19 : decode cX4_digest 19 = .ok (.invokevirtual 281, 3) := by decide +kernel
theorem dX4_digest_22 : decode cX4_digest 22 = .ok (.i2l, 1) := by decide +kernel
theorem dX4_digest_23 : decode cX4_digest 23 = .ok (.ladd, 1) := by decide +kernel
theorem dX4_digest_24 : decode cX4_digest 24 = .ok (.lstore_n 1, 1) := by decide +kernel
theorem dX4_digest_25 : decode cX4_digest 25 = .ok (.iinc 3 1, 3) := by decide +kernel
theorem dX4_digest_28 : decode cX4_digest 28 = .ok (.goto (-22), 3) := by decide +kernel
theorem dX4_digest_31 : decode cX4_digest 31 = .ok (.iconst 0, 1) := by decide +kernel
theorem dX4_digest_32 : decode cX4_digest 32 = .ok (.istore_n 3, 1) := by decide +kernel
theorem dX4_digest_33 : decode cX4_digest 33 = .ok (.iload_n 3, 1) := by decide +kernel
theorem dX4_digest_34 : decode cX4_digest 34 = .ok (.aload_n 0, 1) := by decide +kernel
theorem dX4_digest_35 : decode cX4_digest 35 = .ok (.getfield 136, 3) := by decide +kernel
theorem dX4_digest_38 : decode cX4_digest 38 = .ok (.if_icmp .ge 106, 3) := by decide +kernel
theorem dX4_digest_41 : decode cX4_digest 41 = .ok (.ldc2_w 279, 3) := by decide +kernel
theorem dX4_digest_44 : decode cX4_digest 44 = .ok (.ldc2_w 279, 3) := by decide +kernel
theorem dX4_digest_47 : decode cX4_digest 47 = .ok (.ldc2_w 279, 3) := by decide +kernel
theorem dX4_digest_50 : decode cX4_digest 50 = .ok (.ldc2_w 279, 3) := by decide +kernel
theorem dX4_digest_53 : decode cX4_digest 53 = .ok (.lload_n 1, 1) := by decide +kernel
theorem dX4_digest_54 : decode cX4_digest 54 = .ok (.lmul, 1) := by decide +kernel
theorem dX4_digest_55 : decode cX4_digest 55 = .ok (.aload_n 0, 1) := by decide +kernel
theorem dX4_digest_56 : decode cX4_digest 56 = .ok (.getfield 29, 3) := by decide +kernel
theorem dX4_digest_59 : decode cX4_digest 59 = .ok (.iload_n 3, 1) := by decide +kernel
theorem dX4_digest_60 : decode cX4_digest 60 = .ok (.iaload, 1) := by decide +kernel
theorem dX4_digest_61 : decode cX4_digest 61 = .ok (.i2l, 1) := by decide +kernel
theorem dX4_digest_62 : decode cX4_digest 62 = .ok (.ladd, 1) := by decide +kernel
theorem dX4_digest_63 : decode cX4_digest 63 = .ok (.lmul, 1) := by decide +kernel
theorem dX4_digest_64 : decode cX4_digest 64 = .ok (.aload_n 0, 1) := by decide +kernel
theorem dX4_digest_65 : decode cX4_digest 65 = .ok (.getfield 32, 3) := by decide +kernel
theorem dX4_digest_68 : decode cX4_digest 68 = .ok (.iload_n 3, 1) := by decide +kernel
theorem dX4_digest_69 : decode cX4_digest 69 = .ok (.iaload, 1) := by decide +kernel
theorem dX4_digest_70 : decode cX4_digest 70 = .ok (.i2l, 1) := by decide +kernel
theorem dX4_digest_71 : decode cX4_digest 71 = .ok (.ladd, 1) := by decide +kernel
theorem dX4_digest_72 : decode cX4_digest 72 = .ok (.lmul, 1) := by decide +kernel
theorem dX4_digest_73 : decode cX4_digest 73 = .ok (.aload_n 0, 1) := by decide +kernel
theorem dX4_digest_74 : decode cX4_digest 74 = .ok (.getfield 35, 3) := by decide +kernel
theorem dX4_digest_77 : decode cX4_digest 77 = .ok (.iload_n 3, 1) := by decide +kernel
theorem dX4_digest_78 : decode cX4_digest 78 = .ok (.iaload, 1) := by decide +kernel
theorem dX4_digest_79 : decode cX4_digest 79 = .ok (.i2l, 1) := by decide +kernel
theorem dX4_digest_80 : decode cX4_digest 80 = .ok (.ladd, 1) := by decide +kernel
theorem dX4_digest_81 : decode cX4_digest 81 = .ok (.lmul, 1) := by decide +kernel
theorem dX4_digest_82 : decode cX4_digest 82 = .ok (.aload_n 0, 1) := by decide +kernel
theorem dX4_digest_83 : decode cX4_digest 83 = .ok (.getfield 38, 3) := by decide +kernel
theorem dX4_digest_86 : decode cX4_digest 86 = .ok (.iconst 1, 1) := by decide +kernel
theorem dX4_digest_87 : decode cX4_digest 87 = .ok (.iload_n 3, 1) := by decide +kernel
theorem dX4_digest_88 : decode cX4_digest 88 = .ok (.iadd, 1) := by decide +kernel
theorem dX4_digest_89 : decode cX4_digest 89 = .ok (.iaload, 1) := by decide +kernel
theorem dX4_digest_90 : decode cX4_digest 90 = .ok (.i2l, 1) := by decide +kernel
theorem dX4_digest_91 : decode cX4_digest 91 = .ok (.ladd, 1) := by decide +kernel
theorem dX4_digest_92 : decode cX4_digest 92 = .ok (.lstore_n 1, 1) := by decide +kernel
theorem dX4_digest_93 : decode cX4_digest 93 = .ok (.ldc2_w 279, 3) := by decide +kernel
theorem dX4_digest_96 : decode cX4_digest 96 = .ok (.ldc2_w 279, 3) := by decide +kernel
theorem dX4_digest_99 : decode cX4_digest 99 = .ok (.ldc2_w 279, 3) := by decide +kernel
theorem dX4_digest_102 : decode cX4_digest 102 = .ok (.lload_n 1, 1) := by decide +kernel
theorem dX4_digest_103 : decode cX4_digest 103 = .ok (.lmul, 1) := by decide +kernel
theorem dX4_digest_104 : decode cX4_digest 104 = .ok (.aload_n 0, 1) := by decide +kernel
theorem dX4_digest_105 : decode cX4_digest 105 = .ok (.getfield 38, 3) := by decide +kernel
theorem dX4_digest_108 : decode cX4_digest 108 = .ok (.bipush 7, 2) := by decide +kernel
theorem dX4_digest_110 : decode cX4_digest 110 = .ok (.iload_n 3, 1) := by decide +kernel
theorem dX4_digest_111 : decode cX4_digest 111 = .ok (.iadd, 1) := by decide +kernel
theorem dX4_digest_112 : decode cX4_digest 112 = .ok (.iaload, 1) := by decide +kernel
theorem dX4_digest_113 : decode cX4_digest 113 = .ok (.i2l, 1) := by decide +kernel
theorem dX4_digest_114 : decode cX4_digest 114 = .ok (.ladd, 1) := by decide +kernel
theorem dX4_digest_115 : decode cX4_digest 115 = .ok (.lmul, 1) := by decide +kernel
theorem dX4_digest_116 : decode cX4_digest 116 = .ok (.aload_n 0, 1) := by decide +kernel
theorem dX4_digest_117 : decode cX4_digest 117 = .ok (.aload_n 0, 1) := by decide +kernel
theorem dX4_digest_118 : decode cX4_digest 118 = .ok (.getfield 29, 3) := by decide +kernel
theorem dX4_digest_121 : decode cX4_digest 121 = .ok (.iload_n 3, 1) := by decide +kernel
theorem dX4_digest_122 : decode cX4_digest 122 = .ok (.iaload, 1) := by decide +kernel
theorem dX4_digest_123 : decode cX4_digest 123 = .ok (.iload_n 3, 1) := by decide +kernel
theorem dX4_digest_124 : decode cX4_digest 124 = .ok (.invokevirtual 162, 3) := by decide +kernel
theorem dX4_digest_127 : decode cX4_digest 127 = .ok (.i2l, 1) := by decide +kernel
theorem dX4_digest_128 : decode cX4_digest 128 = .ok (.ladd, 1) := by decide +kernel
theorem dX4_digest_129 : decode cX4_digest 129 = .ok (.lmul, 1) := by decide +kernel
theorem dX4_digest_130 : decode cX4_digest 130 = .ok (.aload_n 0, 1) := by decide +kernel
theorem dX4_digest_131 : decode cX4_digest 131 = .ok (.iload_n 3, 1) := by decide +kernel
theorem dX4_digest_132 : decode cX4_digest 132 = .ok (.invokevirtual 165, 3) := by decide +kernel
theorem dX4_digest_135 : decode cX4_digest 135 = .ok (.i2l, 1) := by decide +kernel
theorem dX4_digest_136 : decode cX4_digest 136 = .ok (.ladd, 1) := by decide +kernel
theorem dX4_digest_137 : decode cX4_digest 137 = .ok (.lstore_n 1, 1) := by decide +kernel
theorem dX4_digest_138 : decode cX4_digest 138 = .ok (.iinc 3 1, 3) := by decide +kernel
theorem dX4_digest_141 : decode cX4_digest 141 = .ok (.goto (-108), 3) := by decide +kernel
theorem dX4_digest_144 : decode cX4_digest 144 = .ok (.iconst 0, 1) := by decide +kernel
theorem dX4_digest_145 : decode cX4_digest 145 = .ok (.istore_n 3, 1) := by decide +kernel
theorem dX4_digest_146 : decode cX4_digest 146 = .ok (.iload_n 3, 1) := by decide +kernel
theorem dX4_digest_147 : decode cX4_digest 147 = .ok (.iconst 3, 1) := by decide +kernel
theorem dX4_digest_148 : decode cX4_digest 148 = .ok (.if_icmp .ge 27, 3) := by decide +kernel
theorem dX4_digest_151 : decode cX4_digest 151 = .ok (.ldc2_w 279, 3) := by decide +kernel
theorem dX4_digest_154 : decode cX4_digest 154 = .ok (.lload_n 1, 1) := by decide +kernel
theorem dX4_digest_155 : decode cX4_digest 155 = .ok (.lmul, 1) := by decide +kernel
theorem dX4_digest_156 : decode cX4_digest 156 = .ok (.aload_n 0, 1) := by decide +kernel
theorem dX4_digest_157 : decode cX4_digest 157 = .ok (.getfield 50, 3) := by decide +kernel
theorem dX4_digest_160 : decode cX4_digest 160 = .ok (.sipush 534, 3) := by decide +kernel
theorem dX4_digest_163 : decode cX4_digest 163 = .ok (.iload_n 3, 1) := by decide +kernel
theorem dX4_digest_164 : decode cX4_digest 164 = .ok (.imul, 1) := by decide +kernel
theorem dX4_digest_165 : decode cX4_digest 165 = .ok (.iaload, 1) := by decide +kernel
theorem dX4_digest_166 : decode cX4_digest 166 = .ok (.i2l, 1) := by decide +kernel
theorem dX4_digest_167 : decode cX4_digest 167 = .ok (.ladd, 1) := by decide +kernel
theorem dX4_digest_168 : decode cX4_digest 168 = .ok (.lstore_n 1, 1) := by decide +kernel
theorem dX4_digest_169 : decode cX4_digest 169 = .ok (.iinc 3 1, 3) := by decide +kernel
theorem dX4_digest_172 : decode cX4_digest 172 = .ok (.goto (-26), 3) := by decide +kernel
theorem dX4_digest_175 : decode cX4_digest 175 = .ok (.iconst 0, 1) := by decide +kernel
theorem dX4_digest_176 : decode cX4_digest 176 = .ok (.istore_n 3, 1) := by decide +kernel
theorem dX4_digest_177 : decode cX4_digest 177 = .ok (.iload_n 3, 1) := by decide +kernel
theorem dX4_digest_178 : decode cX4_digest 178 = .ok (.bipush 6, 2) := by decide +kernel
theorem dX4_digest_180 : decode cX4_digest 180 = .ok (.if_icmp .ge 63, 3) := by decide +kernel
theorem dX4_digest_183 : decode cX4_digest 183 = .ok (.ldc2_w 279, 3) := by decide +kernel
theorem dX4_digest_186 : decode cX4_digest 186 = .ok (.lload_n 1, 1) := by decide +kernel
theorem dX4_digest_187 : decode cX4_digest 187 = .ok (.lmul, 1) := by decide +kernel
theorem dX4_digest_188 : decode cX4_digest 188 = .ok (.aload_n 0, 1) := by decide +kernel
theorem dX4_digest_189 : decode cX4_digest 189 = .ok (.getfield 13, 3) := by decide +kernel
theorem dX4_digest_192 : decode cX4_digest 192 = .ok (.iload_n 3, 1) := by decide +kernel
theorem dX4_digest_193 : decode cX4_digest 193 = .ok (.iaload, 1) := by decide +kernel
theorem dX4_digest_194 : decode cX4_digest 194 = .ok (.i2l, 1) := by decide +kernel
theorem dX4_digest_195 : decode cX4_digest 195 = .ok (.ladd, 1) := by decide +kernel
theorem dX4_digest_196 : decode cX4_digest 196 = .ok (.lstore_n 1, 1) := by decide +kernel
theorem dX4_digest_197 : decode cX4_digest 197 = .ok (.iconst 0, 1) := by decide +kernel
theorem dX4_digest_198 : decode cX4_digest 198 = .ok (.istore 4, 2) := by decide +kernel
theorem dX4_digest_200 : decode cX4_digest 200 = .ok (.iload 4, 2) := by decide +kernel
theorem dX4_digest_202 : decode cX4_digest 202 = .ok (.aload_n 0, 1) := by decide +kernel
theorem dX4_digest_203 : decode cX4_digest 203 = .ok (.getfield 13, 3) := by decide +kernel
theorem dX4_digest_206 : decode cX4_digest 206 = .ok (.iload_n 3, 1) := by decide +kernel
theorem dX4_digest_207 : decode cX4_digest 207 = .ok (.iaload, 1) := by decide +kernel
theorem dX4_digest_208 : decode cX4_digest 208 = .ok (.if_icmp .ge 29, 3) := by decide +kernel
theorem dX4_digest_211 : decode cX4_digest 211 = .ok (.ldc2_w 279, 3) := by decide +kernel
theorem dX4_digest_214 : decode cX4_digest 214 = .ok (.lload_n 1, 1) := by decide +kernel
theorem dX4_digest_215 : decode cX4_digest 215 = .ok (.lmul, 1) := by decide +kernel
theorem dX4_digest_216 : decode cX4_digest 216 = .ok (.aload_n 0, 1) := by decide +kernel
theorem dX4_digest_217 : decode cX4_digest 217 = .ok (.getfield 7, 3) := by decide +kernel
theorem dX4_digest_220 : decode cX4_digest 220 = .ok (.bipush 40, 2) := by decide +kernel
theorem dX4_digest_222 : decode cX4_digest 222 = .ok (.iload_n 3, 1) := by decide +kernel
theorem dX4_digest_223 : decode cX4_digest 223 = .ok (.imul, 1) := by decide +kernel
theorem dX4_digest_224 : decode cX4_digest 224 = .ok (.iload 4, 2) := by decide +kernel
theorem dX4_digest_226 : decode cX4_digest 226 = .ok (.iadd, 1) := by decide +kernel
theorem dX4_digest_227 : decode cX4_digest 227 = .ok (.iaload, 1) := by decide +kernel
theorem dX4_digest_228 : decode cX4_digest 228 = .ok (.i2l, 1) := by decide +kernel
theorem dX4_digest_229 : decode cX4_digest 229 = .ok (.ladd, 1) := by decide +kernel
theorem dX4_digest_230 : decode cX4_digest 230 = .ok (.lstore_n 1, 1) := by decide +kernel
theorem dX4_digest_231 : decode cX4_digest 231 = .ok (.iinc 4 1, 3) := by decide +kernel
theorem dX4_digest_234 : decode cX4_digest 234 = .ok (.goto (-34), 3) := by decide +kernel
theorem dX4_digest_237 : decode cX4_digest 237 = .ok (.iinc 3 1, 3) := by decide +kernel
theorem dX4_digest_240 : decode cX4_digest 240 = .ok (.goto (-63), 3) := by decide +kernel
theorem dX4_digest_243 : decode cX4_digest 243 = .ok (.iconst 0, 1) := by decide +kernel
theorem dX4_digest_244 : decode cX4_digest 244 = .ok (.istore_n 3, 1) := by decide +kernel
theorem dX4_digest_245 : decode cX4_digest 245 = .ok (.iload_n 3, 1) := by decide +kernel
theorem dX4_digest_246 : decode cX4_digest 246 = .ok (.iconst 4, 1) := by decide +kernel
theorem dX4_digest_247 : decode cX4_digest 247 = .ok (.if_icmp .ge 63, 3) := by decide +kernel
theorem dX4_digest_250 : decode cX4_digest 250 = .ok (.ldc2_w 279, 3) := by decide +kernel
theorem dX4_digest_253 : decode cX4_digest 253 = .ok (.lload_n 1, 1) := by decide +kernel
theorem dX4_digest_254 : decode cX4_digest 254 = .ok (.lmul, 1) := by decide +kernel
theorem dX4_digest_255 : decode cX4_digest 255 = .ok (.aload_n 0, 1) := by decide +kernel
theorem dX4_digest_256 : decode cX4_digest 256 = .ok (.getfield 19, 3) := by decide +kernel
theorem dX4_digest_259 : decode cX4_digest 259 = .ok (.iload_n 3, 1) := by decide +kernel
theorem dX4_digest_260 : decode cX4_digest 260 = .ok (.iaload, 1) := by decide +kernel
theorem dX4_digest_261 : decode cX4_digest 261 = .ok (.i2l, 1) := by decide +kernel
theorem dX4_digest_262 : decode cX4_digest 262 = .ok (.ladd, 1) := by decide +kernel
theorem dX4_digest_263 : decode cX4_digest 263 = .ok (.lstore_n 1, 1) := by decide +kernel
theorem dX4_digest_264 : decode cX4_digest 264 = .ok (.iconst 0, 1) := by decide +kernel
theorem dX4_digest_265 : decode cX4_digest 265 = .ok (.istore 4, 2) := by decide +kernel
theorem dX4_digest_267 : decode cX4_digest 267 = .ok (.iload 4, 2) := by decide +kernel
theorem dX4_digest_269 : decode cX4_digest 269 = .ok (.aload_n 0, 1) := by decide +kernel
theorem dX4_digest_270 : decode cX4_digest 270 = .ok (.getfield 19, 3) := by decide +kernel
theorem dX4_digest_273 : decode cX4_digest 273 = .ok (.iload_n 3, 1) := by decide +kernel
theorem dX4_digest_274 : decode cX4_digest 274 = .ok (.iaload, 1) := by decide +kernel
theorem dX4_digest_275 : decode cX4_digest 275 = .ok (.if_icmp .ge 29, 3) := by decide +kernel
theorem dX4_digest_278 : decode cX4_digest 278 = .ok (.ldc2_w 279, 3) := by decide +kernel
theorem dX4_digest_281 : decode cX4_digest 281 = .ok (.lload_n 1, 1) := by decide +kernel
theorem dX4_digest_282 : decode cX4_digest 282 = .ok (.lmul, 1) := by decide +kernel
theorem dX4_digest_283 : decode cX4_digest 283 = .ok (.aload_n 0, 1) := by decide +kernel
theorem dX4_digest_284 : decode cX4_digest 284 = .ok (.getfield 16, 3) := by decide +kernel
theorem dX4_digest_287 : decode cX4_digest 287 = .ok (.bipush 60, 2) := by decide +kernel
theorem dX4_digest_289 : decode cX4_digest 289 = .ok (.iload_n 3, 1) := by decide +kernel
theorem dX4_digest_290 : decode cX4_digest 290 = .ok (.imul, 1) := by decide +kernel
theorem dX4_digest_291 : decode cX4_digest 291 = .ok (.iload 4, 2) := by decide +kernel
theorem dX4_digest_293 : decode cX4_digest 293 = .ok (.iadd, 1) := by decide +kernel
theorem dX4_digest_294 : decode cX4_digest 294 = .ok (.iaload, 1) := by decide +kernel
theorem dX4_digest_295 : decode cX4_digest 295 = .ok (.i2l, 1) := by decide +kernel
theorem dX4_digest_296 : decode cX4_digest 296 = .ok (.ladd, 1) := by decide +kernel
theorem dX4_digest_297 : decode cX4_digest 297 = .ok (.lstore_n 1, 1) := by decide +kernel
theorem dX4_digest_298 : decode cX4_digest 298 = .ok (.iinc 4 1, 3) := by decide +kernel
theorem dX4_digest_301 : decode cX4_digest 301 = .ok (.goto (-34), 3) := by decide +kernel
theorem dX4_digest_304 : decode cX4_digest 304 = .ok (.iinc 3 1, 3) := by decide +kernel
theorem dX4_digest_307 : decode cX4_digest 307 = .ok (.goto (-62), 3) := by decide +kernel
theorem dX4_digest_310 : decode cX4_digest 310 = .ok (.lload_n 1, 1) := by decide +kernel
theorem dX4_digest_311 : decode cX4_digest 311 = .ok (.lreturn, 1) := by decide +kernel
end
section
/-! the class' and the reference's cells as one flat store: σ k j is the int at place j of cell k, μ k j the long there -/
abbrev fsS : Type := Nat → Nat → Int32
abbrev fsL : Type := Nat → Nat → Int64
/-- a cell's shape: an object (its class; its fields: a reference to a cell, an int, a long), an array of ints, an array of so many references to the cells from one on -/
abbrev fsT : Type := (Nat × List (Nat ⊕ Bool)) ⊕ (Nat ⊕ (Nat × Nat))
def fs_tp : List fsT := [
  .inl (3, [.inl 1, .inl 2, .inl 3, .inl 6, .inl 7, .inl 8, .inl 9, .inr false, .inr false, .inr true, .inr true]),
  .inl (2, [.inl 35, .inl 10, .inr false]),
  .inl (2, [.inl 36, .inl 11, .inr false]),
  .inl (0, [.inl 4, .inl 5, .inr false, .inr false, .inl 12, .inl 37, .inl 13]),
  .inl (1, [.inr false, .inl 14, .inl 15, .inl 16, .inl 17, .inl 18, .inl 19, .inl 20, .inr false, .inr false]),
  .inl (1, [.inr false, .inl 21, .inl 22, .inl 23, .inl 24, .inl 25, .inl 26, .inl 27, .inr false, .inr false]),
  .inl (1, [.inr false, .inl 28, .inl 29, .inl 30, .inl 31, .inl 32, .inl 33, .inl 34, .inr false, .inr false]),
  .inr (.inl 16),
  .inr (.inl 16),
  .inr (.inl 6),
  .inr (.inl 6),
  .inr (.inl 4),
  .inr (.inl 40),
  .inr (.inl 3),
  .inr (.inl 6),
  .inr (.inl 6),
  .inr (.inl 6),
  .inr (.inl 6),
  .inr (.inl 6),
  .inr (.inl 6),
  .inr (.inl 6),
  .inr (.inl 6),
  .inr (.inl 6),
  .inr (.inl 6),
  .inr (.inl 6),
  .inr (.inl 6),
  .inr (.inl 6),
  .inr (.inl 6),
  .inr (.inl 6),
  .inr (.inl 6),
  .inr (.inl 6),
  .inr (.inl 6),
  .inr (.inl 6),
  .inr (.inl 6),
  .inr (.inl 6),
  .inr (.inr (38, 6)),
  .inr (.inr (44, 4)),
  .inr (.inr (48, 3)),
  .inr (.inl 40),
  .inr (.inl 40),
  .inr (.inl 40),
  .inr (.inl 40),
  .inr (.inl 40),
  .inr (.inl 40),
  .inr (.inl 60),
  .inr (.inl 60),
  .inr (.inl 60),
  .inr (.inl 60),
  .inr (.inl 40),
  .inr (.inl 40),
  .inr (.inl 40),
  .inl (4, [.inl 52, .inl 53, .inl 54, .inl 55, .inr false, .inr true, .inr true, .inr false, .inl 56, .inr false, .inl 57, .inl 58, .inl 59, .inl 60, .inl 61, .inl 62, .inl 63, .inr false, .inl 64, .inr false, .inr false, .inr false, .inr false, .inr false, .inl 65, .inl 66, .inl 67]),
  .inr (.inl 240),
  .inr (.inl 6),
  .inr (.inl 240),
  .inr (.inl 4),
  .inr (.inl 6),
  .inr (.inl 6),
  .inr (.inl 6),
  .inr (.inl 6),
  .inr (.inl 13),
  .inr (.inl 13),
  .inr (.inl 6),
  .inr (.inl 520),
  .inr (.inl 1602),
  .inr (.inl 30),
  .inr (.inl 16),
  .inr (.inl 16)]
def fs_s {τ : Type} (σ : Nat → Nat → τ) (k : Nat) (f : Nat → τ) : Nat → Nat → τ := fun a => if a = k then f else σ a
def fs_u (σ : fsS) (k j : Nat) (x : Int32) : fsS := fs_s σ k (upd (σ k) j x)
def fs_ul (μ : fsL) (k j : Nat) (x : Int64) : fsL := fs_s μ k (vp_updL (μ k) j x)
def fs_v (α : Nat → Nat) (v : Value) : Value := match v with
  | .ref k => .ref (α k)
  | v => v
def fs_f (σ : fsS) (μ : fsL) (k j : Nat) (f : Nat ⊕ Bool) : Value := match f with
  | .inl r => .ref r
  | .inr false => .int (σ k j)
  | .inr true => .long (μ k j)
def fs_e (cI cII : ClassId) (α : Nat → Nat) (σ : fsS) (μ : fsL) (k : Nat) (t : fsT) : va_E := match t with
  | .inl o => .inr (o.1, o.2.mapIdx (fun j f => fs_v α (fs_f σ μ k j f)))
  | .inr (.inl n) => .inl (cI, n, .inl (σ k))
  | .inr (.inr q) => .inl (cII, q.2, .inr (.inr (.inr (.inr (fun i => if i < q.2 then some (α (q.1 + i)) else none)))))
def fs_w (cI cII : ClassId) (α : Nat → Nat) (σ : fsS) (μ : fsL) : va_W := fs_tp.mapIdx (fun k t => (α k, fs_e cI cII α σ μ k t))
theorem fs_w_get {cI cII : ClassId} {α : Nat → Nat} {σ : fsS} {μ : fsL} {k : Nat} {t : fsT} (h : fs_tp[k]? = some t) : (fs_w cI cII α σ μ)[k]? = some (α k, fs_e cI cII α σ μ k t) := by
  unfold fs_w
  rw [List.getElem?_mapIdx, h]
  rfl
theorem fs_w_key {cI cII : ClassId} {α : Nat → Nat} {σ : fsS} {μ : fsL} {k : Nat} {q : Nat × va_E} (h : (fs_w cI cII α σ μ)[k]? = some q) : k < 68 ∧ q.1 = α k := by
  unfold fs_w at h
  rw [List.getElem?_mapIdx] at h
  cases ht : fs_tp[k]? with
  | none => rw [ht] at h; cases h
  | some t =>
    rw [ht] at h
    cases h
    exact ⟨(List.getElem?_eq_some_iff.mp ht).1, rfl⟩
theorem fs_D {cI cII : ClassId} {α : Nat → Nat} {A : Nat → Prop} (inj : ∀ i j, i < 68 → j < 68 → α i = α j → i = j) (hA : ∀ i, i < 68 → A (α i)) (σ : fsS) (μ : fsL) : va_D A (fs_w cI cII α σ μ) := by
  refine ⟨fun i j p q hi hj h => ?_, fun k q hk => ?_⟩
  · obtain ⟨h1, h2⟩ := fs_w_key hi
    obtain ⟨h3, h4⟩ := fs_w_key hj
    exact inj i j h1 h3 (by rw [← h2, ← h4, h])
  · obtain ⟨h1, h2⟩ := fs_w_key hk
    rw [h2]
    exact hA k h1
theorem fs_e_s {cI cII : ClassId} {α : Nat → Nat} {σ : fsS} {μ : fsL} {k i : Nat} (h : ¬ i = k) (f : Nat → Int32) (t : fsT) : fs_e cI cII α (fs_s σ k f) μ i t = fs_e cI cII α σ μ i t := by
  have e : fs_s σ k f i = σ i := by simp [fs_s, h]
  rcases t with o | n | q
  · show (Sum.inr (o.1, _) : va_E) = Sum.inr (o.1, _)
    congr 2
    congr 1
    funext j g
    rcases g with r | b | b
    · rfl
    · show Value.int (fs_s σ k f i j) = Value.int (σ i j)
      rw [e]
    · rfl
  · show (Sum.inl (cI, n, .inl (fs_s σ k f i)) : va_E) = Sum.inl (cI, n, .inl (σ i))
    rw [e]
  · rfl
theorem fs_e_sl {cI cII : ClassId} {α : Nat → Nat} {σ : fsS} {μ : fsL} {k i : Nat} (h : ¬ i = k) (f : Nat → Int64) (t : fsT) : fs_e cI cII α σ (fs_s μ k f) i t = fs_e cI cII α σ μ i t := by
  have e : fs_s μ k f i = μ i := by simp [fs_s, h]
  rcases t with o | n | q
  · show (Sum.inr (o.1, _) : va_E) = Sum.inr (o.1, _)
    congr 2
    congr 1
    funext j g
    rcases g with r | b | b
    · rfl
    · rfl
    · show Value.long (fs_s μ k f i j) = Value.long (μ i j)
      rw [e]
  · rfl
  · rfl
theorem fs_s_self {τ : Type} (σ : Nat → Nat → τ) (k : Nat) (f : Nat → τ) : fs_s σ k f k = f := by simp [fs_s]
theorem fs_s_ne {τ : Type} (σ : Nat → Nat → τ) {k a : Nat} (h : ¬ a = k) (f : Nat → τ) : fs_s σ k f a = σ a := by simp [fs_s, h]
theorem fs_w_setA {cI cII : ClassId} {α : Nat → Nat} {σ : fsS} {μ : fsL} {k n : Nat} (h : fs_tp[k]? = some (.inr (.inl n))) (f : Nat → Int32) : (fs_w cI cII α σ μ).set k (α k, .inl (cI, n, .inl f)) = fs_w cI cII α (fs_s σ k f) μ := by
  have hg := fs_w_get (cI := cI) (cII := cII) (α := α) (σ := σ) (μ := μ) h
  have hlt := (List.getElem?_eq_some_iff.mp hg).1
  apply List.ext_getElem?
  intro i
  by_cases hi : i = k
  · subst hi
    rw [List.getElem?_set_self hlt, fs_w_get h]
    show _ = some (α i, (Sum.inl (cI, n, .inl (fs_s σ i f i)) : va_E))
    rw [fs_s_self]
  · rw [List.getElem?_set_ne (Ne.symm hi)]
    unfold fs_w
    rw [List.getElem?_mapIdx, List.getElem?_mapIdx]
    cases fs_tp[i]? with
    | none => rfl
    | some t => show some (α i, _) = some (α i, _); rw [fs_e_s hi]
theorem fs_w_setI {cI cII : ClassId} {α : Nat → Nat} {σ : fsS} {μ : fsL} {k ci j : Nat} {fs : List (Nat ⊕ Bool)} (h : fs_tp[k]? = some (.inl (ci, fs))) (hj : fs[j]? = some (.inr false)) (x : Int32) : (fs_w cI cII α σ μ).set k (α k, .inr (ci, (fs.mapIdx (fun j f => fs_v α (fs_f σ μ k j f))).set j (.int x))) = fs_w cI cII α (fs_u σ k j x) μ := by
  have hg := fs_w_get (cI := cI) (cII := cII) (α := α) (σ := σ) (μ := μ) h
  have hlt := (List.getElem?_eq_some_iff.mp hg).1
  apply List.ext_getElem?
  intro i
  by_cases hi : i = k
  · subst hi
    rw [List.getElem?_set_self hlt, fs_w_get h]
    show _ = some (α i, (Sum.inr (ci, fs.mapIdx (fun j' f => fs_v α (fs_f (fs_u σ i j x) μ i j' f))) : va_E))
    refine congrArg (fun l => some (α i, (Sum.inr (ci, l) : va_E))) ?_
    apply List.ext_getElem?
    intro a
    by_cases ha : a = j
    · subst ha
      have hl2 : a < (fs.mapIdx (fun j f => fs_v α (fs_f σ μ i j f))).length := by
        rw [List.length_mapIdx]
        exact (List.getElem?_eq_some_iff.mp hj).1
      rw [List.getElem?_set_self hl2, List.getElem?_mapIdx, hj]
      show some (Value.int x) = some (Value.int (fs_s σ i (upd (σ i) a x) i a))
      rw [fs_s_self]
      simp [upd]
    · rw [List.getElem?_set_ne (Ne.symm ha), List.getElem?_mapIdx, List.getElem?_mapIdx]
      cases fs[a]? with
      | none => rfl
      | some g =>
        rcases g with r | b | b
        · rfl
        · show some (Value.int (σ i a)) = some (Value.int (fs_s σ i (upd (σ i) j x) i a))
          rw [fs_s_self]
          simp [upd, ha]
        · rfl
  · rw [List.getElem?_set_ne (Ne.symm hi)]
    unfold fs_w
    rw [List.getElem?_mapIdx, List.getElem?_mapIdx]
    cases fs_tp[i]? with
    | none => rfl
    | some t => show some (α i, _) = some (α i, _); unfold fs_u; rw [fs_e_s hi]
theorem fs_w_setL {cI cII : ClassId} {α : Nat → Nat} {σ : fsS} {μ : fsL} {k ci j : Nat} {fs : List (Nat ⊕ Bool)} (h : fs_tp[k]? = some (.inl (ci, fs))) (hj : fs[j]? = some (.inr true)) (x : Int64) : (fs_w cI cII α σ μ).set k (α k, .inr (ci, (fs.mapIdx (fun j f => fs_v α (fs_f σ μ k j f))).set j (.long x))) = fs_w cI cII α σ (fs_ul μ k j x) := by
  have hg := fs_w_get (cI := cI) (cII := cII) (α := α) (σ := σ) (μ := μ) h
  have hlt := (List.getElem?_eq_some_iff.mp hg).1
  apply List.ext_getElem?
  intro i
  by_cases hi : i = k
  · subst hi
    rw [List.getElem?_set_self hlt, fs_w_get h]
    show _ = some (α i, (Sum.inr (ci, fs.mapIdx (fun j' f => fs_v α (fs_f σ (fs_ul μ i j x) i j' f))) : va_E))
    refine congrArg (fun l => some (α i, (Sum.inr (ci, l) : va_E))) ?_
    apply List.ext_getElem?
    intro a
    by_cases ha : a = j
    · subst ha
      have hl2 : a < (fs.mapIdx (fun j f => fs_v α (fs_f σ μ i j f))).length := by
        rw [List.length_mapIdx]
        exact (List.getElem?_eq_some_iff.mp hj).1
      rw [List.getElem?_set_self hl2, List.getElem?_mapIdx, hj]
      show some (Value.long x) = some (Value.long (fs_s μ i (vp_updL (μ i) a x) i a))
      rw [fs_s_self]
      simp [vp_updL]
    · rw [List.getElem?_set_ne (Ne.symm ha), List.getElem?_mapIdx, List.getElem?_mapIdx]
      cases fs[a]? with
      | none => rfl
      | some g =>
        rcases g with r | b | b
        · rfl
        · rfl
        · show some (Value.long (μ i a)) = some (Value.long (fs_s μ i (vp_updL (μ i) j x) i a))
          rw [fs_s_self]
          simp [vp_updL, ha]
  · rw [List.getElem?_set_ne (Ne.symm hi)]
    unfold fs_w
    rw [List.getElem?_mapIdx, List.getElem?_mapIdx]
    cases fs_tp[i]? with
    | none => rfl
    | some t => show some (α i, _) = some (α i, _); unfold fs_ul; rw [fs_e_sl hi]
/-! locals by their places -/
theorem fs_v_cat (α : Nat → Nat) (v : Value) : (fs_v α v).category = v.category := by cases v <;> rfl
def fs_lv (α : Nat → Nat) (L : List (Option Value)) : List (Nat × Value) := L.zipIdx.filterMap (fun q => q.1.map (fun v => (q.2, fs_v α v)))
theorem fs_lv_mem {α : Nat → Nat} {L : List (Option Value)} {i : Nat} {v : Value} (h : L[i]? = some (some v)) : (i, fs_v α v) ∈ fs_lv α L :=
  List.mem_filterMap.mpr ⟨(some v, i), List.mk_mem_zipIdx_iff_getElem?.mpr h, rfl⟩
theorem fs_lv_of {α : Nat → Nat} {L : List (Option Value)} {q : Nat × Value} (h : q ∈ fs_lv α L) : ∃ v, L[q.1]? = some (some v) ∧ q.2 = fs_v α v := by
  obtain ⟨⟨o, i⟩, h1, h2⟩ := List.mem_filterMap.mp h
  have h3 := List.mk_mem_zipIdx_iff_getElem?.mp h1
  cases o with
  | none => cases h2
  | some v =>
    cases h2
    exact ⟨v, h3, rfl⟩
theorem fs_at {α : Nat → Nat} {L : List (Option Value)} {ls : Array Slot} {n i : Nat} {v : Value} (h : lv_has ls n (fs_lv α L)) (hi : L[i]? = some (some v)) : ls[i]? = some (.val (fs_v α v)) := h.2.2 _ (fs_lv_mem hi)
def fs_cl (L : List (Option Value)) (i : Nat) : List (Option Value) := match L[i]? with
  | some (some (.long _)) => L.set i none
  | some (some (.double _)) => L.set i none
  | _ => L
def fs_st (L : List (Option Value)) (i : Nat) (v : Value) : List (Option Value) := match i with
  | 0 => L.set 0 (some v)
  | i + 1 => (fs_cl L i).set (i + 1) (some v)
def fs_st2 (L : List (Option Value)) (i : Nat) (v : Value) : List (Option Value) := (fs_st L i v).set (i + 1) none
theorem fs_cl_len (L : List (Option Value)) (i : Nat) : (fs_cl L i).length = L.length := by
  unfold fs_cl
  split <;> simp
theorem fs_st_len (L : List (Option Value)) (i : Nat) (v : Value) : (fs_st L i v).length = L.length := by
  unfold fs_st
  split <;> simp [fs_cl_len]
theorem fs_st2_len (L : List (Option Value)) (i : Nat) (v : Value) : (fs_st2 L i v).length = L.length := by
  unfold fs_st2
  simp [fs_st_len]
theorem fs_cl_get {L : List (Option Value)} {i j : Nat} {w : Value} (h : (fs_cl L i)[j]? = some (some w)) : L[j]? = some (some w) ∧ ¬ (j = i ∧ w.category = 2) := by
  unfold fs_cl at h
  have key : (L.set i none)[j]? = some (some w) → L[j]? = some (some w) ∧ ¬ (j = i ∧ w.category = 2) := by
    intro h
    by_cases hj : j = i
    · subst hj
      by_cases hl : j < L.length
      · rw [List.getElem?_set_self hl] at h; cases h
      · rw [List.getElem?_eq_none (by simp; omega)] at h; cases h
    · rw [List.getElem?_set_ne (Ne.symm hj)] at h
      exact ⟨h, fun q => hj q.1⟩
  split at h
  · exact key h
  · exact key h
  · rename_i h1 h2
    refine ⟨h, fun ⟨q1, q2⟩ => ?_⟩
    subst q1
    cases w with
    | long x => exact h1 x h
    | double x => exact h2 x h
    | _ => cases q2
theorem fs_st_get {L : List (Option Value)} {i j : Nat} {v w : Value} (hj : ¬ j = i) (h : (fs_st L i v)[j]? = some (some w)) : L[j]? = some (some w) ∧ ¬ (j + 1 = i ∧ w.category = 2) := by
  cases i with
  | zero =>
    have h : (L.set 0 (some v))[j]? = some (some w) := h
    rw [List.getElem?_set_ne (Ne.symm hj)] at h
    exact ⟨h, fun q => by omega⟩
  | succ i =>
    have h : ((fs_cl L i).set (i + 1) (some v))[j]? = some (some w) := h
    rw [List.getElem?_set_ne (Ne.symm hj)] at h
    obtain ⟨h1, h2⟩ := fs_cl_get h
    exact ⟨h1, fun q => h2 ⟨by omega, q.2⟩⟩
theorem fs_st_self {L : List (Option Value)} {i : Nat} {v w : Value} (h : (fs_st L i v)[i]? = some (some w)) : w = v := by
  have hl : i < (fs_st L i v).length := (List.getElem?_eq_some_iff.mp h).1
  cases i with
  | zero =>
    have h : (L.set 0 (some v))[0]? = some (some w) := h
    rw [List.getElem?_set_self (by rw [fs_st_len] at hl; exact hl)] at h
    cases h; rfl
  | succ i =>
    have h : ((fs_cl L i).set (i + 1) (some v))[i + 1]? = some (some w) := h
    rw [List.getElem?_set_self (by rw [fs_st_len] at hl; rw [fs_cl_len]; exact hl)] at h
    cases h; rfl
theorem fs_st_has {α : Nat → Nat} {ls : Array Slot} {n i : Nat} {L : List (Option Value)} {v : Value} (h : lv_has ls n ((i, fs_v α v) :: (fs_lv α L).filter (fun q => !(q.1 == i) && !(q.1 + 1 == i && q.2.category == 2)))) : lv_has ls n (fs_lv α (fs_st L i v)) := by
  refine ⟨h.1, h.2.1, fun q hq => h.2.2 q ?_⟩
  obtain ⟨w, hw, hq2⟩ := fs_lv_of hq
  by_cases hi : q.1 = i
  · rw [hi] at hw
    have e := fs_st_self hw
    have : q = (i, fs_v α v) := by rw [← hi, ← e, ← hq2]
    rw [this]
    exact List.mem_cons_self
  · obtain ⟨h1, h2⟩ := fs_st_get hi hw
    refine List.mem_cons_of_mem _ (List.mem_filter.mpr ⟨?_, ?_⟩)
    · have := fs_lv_mem (α := α) h1
      rw [← hq2] at this
      exact this
    · have h3 : ¬ (q.1 + 1 = i ∧ q.2.category = 2) := by rw [hq2, fs_v_cat]; exact h2
      simp [hi]
      by_cases h4 : q.1 + 1 = i
      · exact Or.inr (fun h5 => h3 ⟨h4, h5⟩)
      · exact Or.inl h4
theorem fs_st2_has {α : Nat → Nat} {ls : Array Slot} {n i : Nat} {L : List (Option Value)} {v : Value} (h : lv_has ls n ((i, fs_v α v) :: (fs_lv α L).filter (fun q => !(q.1 == i) && (!(q.1 == i + 1) && !(q.1 + 1 == i && q.2.category == 2))))) : lv_has ls n (fs_lv α (fs_st2 L i v)) := by
  refine ⟨h.1, h.2.1, fun q hq => h.2.2 q ?_⟩
  obtain ⟨w, hw0, hq2⟩ := fs_lv_of hq
  unfold fs_st2 at hw0
  have hne : ¬ q.1 = i + 1 := by
    intro hc
    rw [hc] at hw0
    by_cases hl : i + 1 < (fs_st L i v).length
    · rw [List.getElem?_set_self hl] at hw0; cases hw0
    · rw [List.getElem?_eq_none (by simp; omega)] at hw0; cases hw0
  rw [List.getElem?_set_ne (Ne.symm hne)] at hw0
  by_cases hi : q.1 = i
  · rw [hi] at hw0
    have e := fs_st_self hw0
    have : q = (i, fs_v α v) := by rw [← hi, ← e, ← hq2]
    rw [this]
    exact List.mem_cons_self
  · obtain ⟨h1, h2⟩ := fs_st_get hi hw0
    refine List.mem_cons_of_mem _ (List.mem_filter.mpr ⟨?_, ?_⟩)
    · have := fs_lv_mem (α := α) h1
      rw [← hq2] at this
      exact this
    · have h3 : ¬ (q.1 + 1 = i ∧ q.2.category = 2) := by rw [hq2, fs_v_cat]; exact h2
      simp [hi, hne]
      by_cases h4 : q.1 + 1 = i
      · exact Or.inr (fun h5 => h3 ⟨h4, h5⟩)
      · exact Or.inl h4
def fs_en : List Value → List (Option Value)
  | [] => []
  | v :: vs => if v.category = 2 then some v :: none :: fs_en vs else some v :: fs_en vs
def fs_ent (n : Nat) (as : List Value) : List (Option Value) := fs_en as ++ List.replicate (n - (fs_en as).length) none
theorem fs_en_args (α : Nat → Nat) : ∀ (as : List Value) (i j : Nat) (v : Value), (fs_en as)[j]? = some (some v) → (i + j, fs_v α v) ∈ lv_args i (as.map (fs_v α))
  | [], i, j, v, h => by simp [fs_en] at h
  | a :: as, i, j, v, h => by
    simp only [fs_en] at h
    show _ ∈ (i, fs_v α a) :: lv_args (if (fs_v α a).category = 2 then i + 2 else i + 1) (as.map (fs_v α))
    rw [fs_v_cat]
    by_cases hc : a.category = 2
    · rw [if_pos hc] at h ⊢
      match j, h with
      | 0, h => cases h; exact List.mem_cons_self
      | 1, h => cases h
      | j + 2, h =>
        have := fs_en_args α as (i + 2) j v h
        rw [show i + (j + 2) = i + 2 + j by omega]
        exact List.mem_cons_of_mem _ this
    · rw [if_neg hc] at h ⊢
      match j, h with
      | 0, h => cases h; exact List.mem_cons_self
      | j + 1, h =>
        have := fs_en_args α as (i + 1) j v h
        rw [show i + (j + 1) = i + 1 + j by omega]
        exact List.mem_cons_of_mem _ this
theorem fs_en_sl (α : Nat → Nat) : ∀ as : List Value, (lg_sl (as.map (fs_v α))).length = (fs_en as).length
  | [] => rfl
  | a :: as => by
    have ih := fs_en_sl α as
    unfold lg_sl at ih ⊢
    rw [List.map_cons, List.flatMap_cons, List.length_append, ih, fs_v_cat]
    simp only [fs_en]
    by_cases hc : a.category = 2
    · rw [if_pos hc, if_pos hc]; simp; omega
    · rw [if_neg hc, if_neg hc]; simp; omega
theorem fs_ent_has {α : Nat → Nat} {as : List Value} {n : Nat} {ls : Array Slot} (h : lv_has ls n (lv_args 0 (as.map (fs_v α)))) : lv_has ls n (fs_lv α (fs_ent n as)) := by
  refine ⟨h.1, h.2.1, fun q hq => h.2.2 q ?_⟩
  obtain ⟨w, hw, hq2⟩ := fs_lv_of hq
  unfold fs_ent at hw
  by_cases hl : q.1 < (fs_en as).length
  · rw [List.getElem?_append_left hl] at hw
    have := fs_en_args α as 0 q.1 w hw
    rw [Nat.zero_add, ← hq2] at this
    exact this
  · rw [List.getElem?_append_right (by omega)] at hw
    have := List.mem_of_getElem? hw
    rw [List.mem_replicate] at this
    cases this.2
/-! the judgement -/
/-- the words that hold at every call below the law -/
def fs_ws : List Cond := lw_tbl.filter goodWord
abbrev fsC : Type := Program × Launch × Env × Room × State × MethodId × Array Value × List Frame × Method × Code × Nat × Nat × (State → Prop) × (Nat → ClassId) × (Nat → Nat → Nat) × (Nat → Nat) × ClassId × ClassId × (Nat → Prop)
def fs_A (α : Nat → Nat) : Nat → Prop := fun q => ∃ k, k < 68 ∧ q = α k
abbrev fs_ty (cI cII : ClassId) : List (ClassId × FieldType) := [(cI, .int), (cII, .array .int)]
def fs_PW (X : fsC) (pc : Nat) (L : List (Option Value)) (st : List Value) (σ : fsS) (μ : fsL) : Prop := match X with
  | (p, l, e, R, s, m, args, below, meth, c, cells, slots, Q, dC, dI, α, cI, cII, A) => ∀ (H : Heap) (locs : List Loc) (ls : Array Slot), lv_has ls L.length (fs_lv α L) → va_P (dC, dI) vwCl (fs_w cI cII α σ μ) H → va_S A s.heap H locs → W p l e R s m args below meth c H locs cells slots Q (F0 m pc ls (st.map (fs_v α)))
def fs_ok (cc : ByteArray) (own : String) (nL : Nat) (rm : Room) (X : fsC) : Prop := match X with
  | (p, l, e, R, s, m, args, below, meth, c, cells, slots, Q, dC, dI, α, cI, cII, A) => p.tables.exec = Jvm.exec ∧ c.code = cc ∧ c.maxLocals = nL ∧ s.vm.findClass own = some m.cls ∧ (∀ w ∈ fs_ws, w.before args s = true) ∧ va_K (dC, dI) vwCl (fs_ty cI cII) s ∧ (∀ i j, i < 68 → j < 68 → α i = α j → i = j) ∧ (∀ i, i < 68 → A (α i)) ∧ R = rm ∧ cells ≤ rm.cells ∧ slots ≤ rm.slots
def fs_Q (dC : Nat → ClassId) (dI : Nat → Nat → Nat) (α : Nat → Nat) (cI cII : ClassId) (r : Option Value) (σ : fsS) (μ : fsL) : Array Value → State → Outcome → State → Prop := fun _ st oc t => (oc = .returned (r.map (fs_v α)) ∧ va_P (dC, dI) vwCl (fs_w cI cII α σ μ) t.heap) ∧ va_F (fs_A α) st t
def fs_ret (ret : Option FieldType) (r : Option Value) (σ : fsS) (μ : fsL) (X : fsC) : Prop := match X with
  | (p, l, e, R, s, m, args, below, meth, c, cells, slots, Q, dC, dI, α, cI, cII, A) => meth.sig.returnType = ret ∧ meth.locks = false ∧ cells = 0 ∧ slots = 0 ∧ A = fs_A α ∧ Q = MQ below (fs_Q dC dI α cI cII r σ μ) args s 0 0 (fs_A α)
/-- a method's contract: from these arguments and this store it comes back with this answer and that store -/
def fs_Met (y : MethodName) (code : ByteArray) (maxL : Nat) (ret : Option FieldType) (rm : Room) (as : List Value) (σ : fsS) (μ : fsL) (r : Option Value) (σ' : fsS) (μ' : fsL) : Prop :=
  ∀ (l : Launch) (dC : Nat → ClassId) (dI : Nat → Nat → Nat) (α : Nat → Nat) (cI cII : ClassId), (∀ i j, i < 68 → j < 68 → α i = α j → i = j) →
    Met l y (.code y code maxL ret :: fs_ws) rm (va_Pc (as.map (fs_v α)) (fun U => va_P (dC, dI) vwCl (fs_w cI cII α σ μ) U.heap ∧ va_K (dC, dI) vwCl (fs_ty cI cII) U)) (fs_Q dC dI α cI cII r σ' μ') 0 0 (fs_A α)
set_option maxHeartbeats 4000000 in
theorem fs_intro {y : MethodName} {code : ByteArray} {maxL : Nat} {ret : Option FieldType} {rm : Room} {as : List Value} {σ : fsS} {μ : fsL} {r : Option Value} {σ' : fsS} {μ' : fsL} (hy : plainName y.cls = true) (hlen : (fs_en as).length ≤ maxL)
    (body : ∀ X : fsC, fs_ok code y.cls maxL rm X → fs_ret ret r σ' μ' X → fs_PW X 0 (fs_ent maxL as) [] σ μ) : fs_Met y code maxL ret rm as σ μ r σ' μ' := by
  intro l dC dI α cI cII inj
  refine Met.ofW (cc := code) (maxL := maxL) (ret := ret) hy rfl ?_
  intro p e s m args below meth c s₁ B hml hv
  obtain ⟨rfl, hP, hK⟩ := hv
  have hx := B.exec
  have hb := B.bytes
  have hr := B.returns
  have hts := atoms_spec (ws := .code y code maxL ret :: fs_ws) B.pre
  have hown : s.vm.findClass y.cls = some m.cls := findClass_of_methodNamed B.named
  have hlocks := B.notSynchronized
  have key := body (p, l, e, rm, s, m, (as.map (fs_v α)).toArray, below, meth, c, 0, 0, MQ below (fs_Q dC dI α cI cII r σ' μ') (as.map (fs_v α)).toArray s 0 0 (fs_A α), dC, dI, α, cI, cII, fs_A α)
    ⟨hx, hb, hml, hown, fun w hw => hts w (List.mem_cons_of_mem _ hw), hK, inj, fun i hi => ⟨i, hi, rfl⟩, rfl, Nat.zero_le _, Nat.zero_le _⟩ ⟨hr, hlocks, rfl, rfl, rfl, rfl⟩
  have hl := lv_entry (as.map (fs_v α)) (n := maxL) (by rw [fs_en_sl]; exact hlen)
  rw [lg_entry_eq]
  have hn : (fs_ent maxL as).length = maxL := by unfold fs_ent; simp; omega
  refine key s.heap [] _ ?_ hP va_S.rf
  rw [hn]
  exact fs_ent_has hl

theorem s_iconst {cc : ByteArray} {own : String} {nL : Nat} {rm : Room} {X : fsC} (hX : fs_ok cc own nL rm X) {pc : Nat} {L : List (Option Value)} {st : List Value} {σ : fsS} {μ : fsL} {n : Int} (hd : decode cc pc = .ok (.iconst n, 1)) (k : fs_PW X (pc + 1) L (.int (Int32.ofInt n) :: st) σ μ) : fs_PW X pc L (st) σ μ := by
  obtain ⟨p, l, e, R, s, m, args, below, meth, c, cells, slots, Q, dC, dI, α, cI, cII, A⟩ := X
  intro H locs ls hl hP hS
  exact lv_iconst hX.1 hX.2.1 hd rfl (k H locs ls hl hP hS)
theorem s_bipush {cc : ByteArray} {own : String} {nL : Nat} {rm : Room} {X : fsC} (hX : fs_ok cc own nL rm X) {pc : Nat} {L : List (Option Value)} {st : List Value} {σ : fsS} {μ : fsL} {n : Int} (hd : decode cc pc = .ok (.bipush n, 2)) (k : fs_PW X (pc + 2) L (.int ((Int8.ofInt n).toInt32) :: st) σ μ) : fs_PW X pc L (st) σ μ := by
  obtain ⟨p, l, e, R, s, m, args, below, meth, c, cells, slots, Q, dC, dI, α, cI, cII, A⟩ := X
  intro H locs ls hl hP hS
  exact lv_bipush hX.1 hX.2.1 hd rfl (k H locs ls hl hP hS)
theorem s_sipush {cc : ByteArray} {own : String} {nL : Nat} {rm : Room} {X : fsC} (hX : fs_ok cc own nL rm X) {pc : Nat} {L : List (Option Value)} {st : List Value} {σ : fsS} {μ : fsL} {n : Int} (hd : decode cc pc = .ok (.sipush n, 3)) (k : fs_PW X (pc + 3) L (.int ((Int16.ofInt n).toInt32) :: st) σ μ) : fs_PW X pc L (st) σ μ := by
  obtain ⟨p, l, e, R, s, m, args, below, meth, c, cells, slots, Q, dC, dI, α, cI, cII, A⟩ := X
  intro H locs ls hl hP hS
  exact lv_sipush hX.1 hX.2.1 hd rfl (k H locs ls hl hP hS)
theorem s_lconst {cc : ByteArray} {own : String} {nL : Nat} {rm : Room} {X : fsC} (hX : fs_ok cc own nL rm X) {pc : Nat} {L : List (Option Value)} {st : List Value} {σ : fsS} {μ : fsL} {n : Fin 2} (hd : decode cc pc = .ok (.lconst n, 1)) (k : fs_PW X (pc + 1) L (.long (Int64.ofNat (n : Nat)) :: st) σ μ) : fs_PW X pc L (st) σ μ := by
  obtain ⟨p, l, e, R, s, m, args, below, meth, c, cells, slots, Q, dC, dI, α, cI, cII, A⟩ := X
  intro H locs ls hl hP hS
  exact lv_lconst hX.1 hX.2.1 hd rfl (k H locs ls hl hP hS)
theorem s_ic {cc : ByteArray} {own : String} {nL : Nat} {rm : Room} {X : fsC} (hX : fs_ok cc own nL rm X) {pc : Nat} {L : List (Option Value)} {st : List Value} {σ : fsS} {μ : fsL} {n : Int} (v : Int32) (hd : decode cc pc = .ok (.iconst n, 1)) (hv : Int32.ofInt n = v) (k : fs_PW X (pc + 1) L (.int v :: st) σ μ) : fs_PW X pc L (st) σ μ := by
  obtain ⟨p, l, e, R, s, m, args, below, meth, c, cells, slots, Q, dC, dI, α, cI, cII, A⟩ := X
  intro H locs ls hl hP hS
  exact lv_iconst hX.1 hX.2.1 hd hv (k H locs ls hl hP hS)
theorem s_bi {cc : ByteArray} {own : String} {nL : Nat} {rm : Room} {X : fsC} (hX : fs_ok cc own nL rm X) {pc : Nat} {L : List (Option Value)} {st : List Value} {σ : fsS} {μ : fsL} {n : Int} (v : Int32) (hd : decode cc pc = .ok (.bipush n, 2)) (hv : (Int8.ofInt n).toInt32 = v) (k : fs_PW X (pc + 2) L (.int v :: st) σ μ) : fs_PW X pc L (st) σ μ := by
  obtain ⟨p, l, e, R, s, m, args, below, meth, c, cells, slots, Q, dC, dI, α, cI, cII, A⟩ := X
  intro H locs ls hl hP hS
  exact lv_bipush hX.1 hX.2.1 hd hv (k H locs ls hl hP hS)
theorem s_si {cc : ByteArray} {own : String} {nL : Nat} {rm : Room} {X : fsC} (hX : fs_ok cc own nL rm X) {pc : Nat} {L : List (Option Value)} {st : List Value} {σ : fsS} {μ : fsL} {n : Int} (v : Int32) (hd : decode cc pc = .ok (.sipush n, 3)) (hv : (Int16.ofInt n).toInt32 = v) (k : fs_PW X (pc + 3) L (.int v :: st) σ μ) : fs_PW X pc L (st) σ μ := by
  obtain ⟨p, l, e, R, s, m, args, below, meth, c, cells, slots, Q, dC, dI, α, cI, cII, A⟩ := X
  intro H locs ls hl hP hS
  exact lv_sipush hX.1 hX.2.1 hd hv (k H locs ls hl hP hS)
theorem s_lc {cc : ByteArray} {own : String} {nL : Nat} {rm : Room} {X : fsC} (hX : fs_ok cc own nL rm X) {pc : Nat} {L : List (Option Value)} {st : List Value} {σ : fsS} {μ : fsL} {n : Fin 2} (v : Int64) (hd : decode cc pc = .ok (.lconst n, 1)) (hv : Int64.ofNat (n : Nat) = v) (k : fs_PW X (pc + 1) L (.long v :: st) σ μ) : fs_PW X pc L (st) σ μ := by
  obtain ⟨p, l, e, R, s, m, args, below, meth, c, cells, slots, Q, dC, dI, α, cI, cII, A⟩ := X
  intro H locs ls hl hP hS
  exact lv_lconst hX.1 hX.2.1 hd hv (k H locs ls hl hP hS)
theorem s_iload_n {cc : ByteArray} {own : String} {nL : Nat} {rm : Room} {X : fsC} (hX : fs_ok cc own nL rm X) {pc : Nat} {L : List (Option Value)} {st : List Value} {σ : fsS} {μ : fsL} {n : Fin 4} {x : Int32} (hd : decode cc pc = .ok (.iload_n n, 1)) (hi : L[(n : Nat)]? = some (some (.int x))) (k : fs_PW X (pc + 1) L (.int x :: st) σ μ) : fs_PW X pc L (st) σ μ := by
  obtain ⟨p, l, e, R, s, m, args, below, meth, c, cells, slots, Q, dC, dI, α, cI, cII, A⟩ := X
  intro H locs ls hl hP hS
  exact lv_iload_n hX.1 hX.2.1 hd rfl (fs_at hl hi) (k H locs ls hl hP hS)
theorem s_iload {cc : ByteArray} {own : String} {nL : Nat} {rm : Room} {X : fsC} (hX : fs_ok cc own nL rm X) {pc : Nat} {L : List (Option Value)} {st : List Value} {σ : fsS} {μ : fsL} {i : Nat} {x : Int32} (hd : decode cc pc = .ok (.iload i, 2)) (hi : L[i]? = some (some (.int x))) (k : fs_PW X (pc + 2) L (.int x :: st) σ μ) : fs_PW X pc L (st) σ μ := by
  obtain ⟨p, l, e, R, s, m, args, below, meth, c, cells, slots, Q, dC, dI, α, cI, cII, A⟩ := X
  intro H locs ls hl hP hS
  exact lv_iload hX.1 hX.2.1 hd (fs_at hl hi) (k H locs ls hl hP hS)
theorem s_istore_n {cc : ByteArray} {own : String} {nL : Nat} {rm : Room} {X : fsC} (hX : fs_ok cc own nL rm X) {pc : Nat} {L : List (Option Value)} {st : List Value} {σ : fsS} {μ : fsL} {n : Fin 4} {x : Int32} (hd : decode cc pc = .ok (.istore_n n, 1)) (hn : (n : Nat) < L.length) (k : fs_PW X (pc + 1) (fs_st L (n : Nat) (.int x)) st σ μ) : fs_PW X pc L (.int x :: st) σ μ := by
  obtain ⟨p, l, e, R, s, m, args, below, meth, c, cells, slots, Q, dC, dI, α, cI, cII, A⟩ := X
  intro H locs ls hl hP hS
  exact lv_istore_n hX.1 hX.2.1 hd rfl hl hn rfl (fun ls2 h2 => k H locs ls2 (by rw [fs_st_len]; exact fs_st_has (v := .int x) h2) hP hS)
theorem s_istore {cc : ByteArray} {own : String} {nL : Nat} {rm : Room} {X : fsC} (hX : fs_ok cc own nL rm X) {pc : Nat} {L : List (Option Value)} {st : List Value} {σ : fsS} {μ : fsL} {i : Nat} {x : Int32} (hd : decode cc pc = .ok (.istore i, 2)) (hn : i < L.length) (k : fs_PW X (pc + 2) (fs_st L i (.int x)) st σ μ) : fs_PW X pc L (.int x :: st) σ μ := by
  obtain ⟨p, l, e, R, s, m, args, below, meth, c, cells, slots, Q, dC, dI, α, cI, cII, A⟩ := X
  intro H locs ls hl hP hS
  exact lv_istore hX.1 hX.2.1 hd hl hn rfl (fun ls2 h2 => k H locs ls2 (by rw [fs_st_len]; exact fs_st_has (v := .int x) h2) hP hS)
theorem s_lload_n {cc : ByteArray} {own : String} {nL : Nat} {rm : Room} {X : fsC} (hX : fs_ok cc own nL rm X) {pc : Nat} {L : List (Option Value)} {st : List Value} {σ : fsS} {μ : fsL} {n : Fin 4} {x : Int64} (hd : decode cc pc = .ok (.lload_n n, 1)) (hi : L[(n : Nat)]? = some (some (.long x))) (k : fs_PW X (pc + 1) L (.long x :: st) σ μ) : fs_PW X pc L (st) σ μ := by
  obtain ⟨p, l, e, R, s, m, args, below, meth, c, cells, slots, Q, dC, dI, α, cI, cII, A⟩ := X
  intro H locs ls hl hP hS
  exact lv_lload_n hX.1 hX.2.1 hd rfl (fs_at hl hi) (k H locs ls hl hP hS)
theorem s_lload {cc : ByteArray} {own : String} {nL : Nat} {rm : Room} {X : fsC} (hX : fs_ok cc own nL rm X) {pc : Nat} {L : List (Option Value)} {st : List Value} {σ : fsS} {μ : fsL} {i : Nat} {x : Int64} (hd : decode cc pc = .ok (.lload i, 2)) (hi : L[i]? = some (some (.long x))) (k : fs_PW X (pc + 2) L (.long x :: st) σ μ) : fs_PW X pc L (st) σ μ := by
  obtain ⟨p, l, e, R, s, m, args, below, meth, c, cells, slots, Q, dC, dI, α, cI, cII, A⟩ := X
  intro H locs ls hl hP hS
  exact lv_lload hX.1 hX.2.1 hd (fs_at hl hi) (k H locs ls hl hP hS)
theorem s_lstore_n {cc : ByteArray} {own : String} {nL : Nat} {rm : Room} {X : fsC} (hX : fs_ok cc own nL rm X) {pc : Nat} {L : List (Option Value)} {st : List Value} {σ : fsS} {μ : fsL} {n : Fin 4} {x : Int64} (hd : decode cc pc = .ok (.lstore_n n, 1)) (hn : (n : Nat) + 1 < L.length) (k : fs_PW X (pc + 1) (fs_st2 L (n : Nat) (.long x)) st σ μ) : fs_PW X pc L (.long x :: st) σ μ := by
  obtain ⟨p, l, e, R, s, m, args, below, meth, c, cells, slots, Q, dC, dI, α, cI, cII, A⟩ := X
  intro H locs ls hl hP hS
  exact lv_lstore_n hX.1 hX.2.1 hd rfl hl hn rfl (fun ls2 h2 => k H locs ls2 (by rw [fs_st2_len]; exact fs_st2_has (v := .long x) h2) hP hS)
theorem s_lstore {cc : ByteArray} {own : String} {nL : Nat} {rm : Room} {X : fsC} (hX : fs_ok cc own nL rm X) {pc : Nat} {L : List (Option Value)} {st : List Value} {σ : fsS} {μ : fsL} {i : Nat} {x : Int64} (hd : decode cc pc = .ok (.lstore i, 2)) (hn : i + 1 < L.length) (k : fs_PW X (pc + 2) (fs_st2 L i (.long x)) st σ μ) : fs_PW X pc L (.long x :: st) σ μ := by
  obtain ⟨p, l, e, R, s, m, args, below, meth, c, cells, slots, Q, dC, dI, α, cI, cII, A⟩ := X
  intro H locs ls hl hP hS
  exact lv_lstore hX.1 hX.2.1 hd hl hn rfl (fun ls2 h2 => k H locs ls2 (by rw [fs_st2_len]; exact fs_st2_has (v := .long x) h2) hP hS)
theorem s_aload_n {cc : ByteArray} {own : String} {nL : Nat} {rm : Room} {X : fsC} (hX : fs_ok cc own nL rm X) {pc : Nat} {L : List (Option Value)} {st : List Value} {σ : fsS} {μ : fsL} {n : Fin 4} {x : Nat} (hd : decode cc pc = .ok (.aload_n n, 1)) (hi : L[(n : Nat)]? = some (some (.ref x))) (k : fs_PW X (pc + 1) L (.ref x :: st) σ μ) : fs_PW X pc L (st) σ μ := by
  obtain ⟨p, l, e, R, s, m, args, below, meth, c, cells, slots, Q, dC, dI, α, cI, cII, A⟩ := X
  intro H locs ls hl hP hS
  exact lv_aload_n hX.1 hX.2.1 hd rfl (fs_at hl hi) (k H locs ls hl hP hS)
theorem s_aload {cc : ByteArray} {own : String} {nL : Nat} {rm : Room} {X : fsC} (hX : fs_ok cc own nL rm X) {pc : Nat} {L : List (Option Value)} {st : List Value} {σ : fsS} {μ : fsL} {i : Nat} {x : Nat} (hd : decode cc pc = .ok (.aload i, 2)) (hi : L[i]? = some (some (.ref x))) (k : fs_PW X (pc + 2) L (.ref x :: st) σ μ) : fs_PW X pc L (st) σ μ := by
  obtain ⟨p, l, e, R, s, m, args, below, meth, c, cells, slots, Q, dC, dI, α, cI, cII, A⟩ := X
  intro H locs ls hl hP hS
  exact lv_aload hX.1 hX.2.1 hd (fs_at hl hi) (k H locs ls hl hP hS)
theorem s_astore_n {cc : ByteArray} {own : String} {nL : Nat} {rm : Room} {X : fsC} (hX : fs_ok cc own nL rm X) {pc : Nat} {L : List (Option Value)} {st : List Value} {σ : fsS} {μ : fsL} {n : Fin 4} {x : Nat} (hd : decode cc pc = .ok (.astore_n n, 1)) (hn : (n : Nat) < L.length) (k : fs_PW X (pc + 1) (fs_st L (n : Nat) (.ref x)) st σ μ) : fs_PW X pc L (.ref x :: st) σ μ := by
  obtain ⟨p, l, e, R, s, m, args, below, meth, c, cells, slots, Q, dC, dI, α, cI, cII, A⟩ := X
  intro H locs ls hl hP hS
  exact lv_astore_n hX.1 hX.2.1 hd rfl hl hn rfl (fun ls2 h2 => k H locs ls2 (by rw [fs_st_len]; exact fs_st_has (v := .ref x) h2) hP hS)
theorem s_astore {cc : ByteArray} {own : String} {nL : Nat} {rm : Room} {X : fsC} (hX : fs_ok cc own nL rm X) {pc : Nat} {L : List (Option Value)} {st : List Value} {σ : fsS} {μ : fsL} {i : Nat} {x : Nat} (hd : decode cc pc = .ok (.astore i, 2)) (hn : i < L.length) (k : fs_PW X (pc + 2) (fs_st L i (.ref x)) st σ μ) : fs_PW X pc L (.ref x :: st) σ μ := by
  obtain ⟨p, l, e, R, s, m, args, below, meth, c, cells, slots, Q, dC, dI, α, cI, cII, A⟩ := X
  intro H locs ls hl hP hS
  exact lv_astore hX.1 hX.2.1 hd hl hn rfl (fun ls2 h2 => k H locs ls2 (by rw [fs_st_len]; exact fs_st_has (v := .ref x) h2) hP hS)
theorem fs_iinc {l : List (Nat × Value)} {q : Nat × Value} (h : q ∈ l) : ∃ k : Nat, l[k]? = some q := by
  obtain ⟨k, hk⟩ := List.getElem?_of_mem h
  exact ⟨k, hk⟩
theorem s_iinc {cc : ByteArray} {own : String} {nL : Nat} {rm : Room} {X : fsC} (hX : fs_ok cc own nL rm X) {pc : Nat} {L : List (Option Value)} {st : List Value} {σ : fsS} {μ : fsL} {i : Nat} {n : Int} {x : Int32} (v : Int32) (hd : decode cc pc = .ok (.iinc i n, 3)) (hi : L[i]? = some (some (.int x))) (hv : x + Int32.ofInt n = v) (hn : i < L.length) (k : fs_PW X (pc + 3) (fs_st L i (.int v)) st σ μ) : fs_PW X pc L (st) σ μ := by
  obtain ⟨p, l, e, R, s, m, args, below, meth, c, cells, slots, Q, dC, dI, α, cI, cII, A⟩ := X
  intro H locs ls hl hP hS
  obtain ⟨k9, hk9⟩ := fs_iinc (fs_lv_mem (α := α) hi)
  exact lv_iinc hX.1 hX.2.1 hd hl hk9 hv hn rfl (fun ls2 h2 => k H locs ls2 (by rw [fs_st_len]; exact fs_st_has (v := .int v) h2) hP hS)
theorem s_iadd {cc : ByteArray} {own : String} {nL : Nat} {rm : Room} {X : fsC} (hX : fs_ok cc own nL rm X) {pc : Nat} {L : List (Option Value)} {st : List Value} {σ : fsS} {μ : fsL} {x y : Int32} (hd : decode cc pc = .ok (.iadd, 1)) (k : fs_PW X (pc + 1) L (.int (x + y) :: st) σ μ) : fs_PW X pc L (.int y :: .int x :: st) σ μ := by
  obtain ⟨p, l, e, R, s, m, args, below, meth, c, cells, slots, Q, dC, dI, α, cI, cII, A⟩ := X
  intro H locs ls hl hP hS
  exact lv_iadd hX.1 hX.2.1 hd (k H locs ls hl hP hS)
theorem s_isub {cc : ByteArray} {own : String} {nL : Nat} {rm : Room} {X : fsC} (hX : fs_ok cc own nL rm X) {pc : Nat} {L : List (Option Value)} {st : List Value} {σ : fsS} {μ : fsL} {x y : Int32} (hd : decode cc pc = .ok (.isub, 1)) (k : fs_PW X (pc + 1) L (.int (x - y) :: st) σ μ) : fs_PW X pc L (.int y :: .int x :: st) σ μ := by
  obtain ⟨p, l, e, R, s, m, args, below, meth, c, cells, slots, Q, dC, dI, α, cI, cII, A⟩ := X
  intro H locs ls hl hP hS
  exact lv_isub hX.1 hX.2.1 hd (k H locs ls hl hP hS)
theorem s_imul {cc : ByteArray} {own : String} {nL : Nat} {rm : Room} {X : fsC} (hX : fs_ok cc own nL rm X) {pc : Nat} {L : List (Option Value)} {st : List Value} {σ : fsS} {μ : fsL} {x y : Int32} (hd : decode cc pc = .ok (.imul, 1)) (k : fs_PW X (pc + 1) L (.int (x * y) :: st) σ μ) : fs_PW X pc L (.int y :: .int x :: st) σ μ := by
  obtain ⟨p, l, e, R, s, m, args, below, meth, c, cells, slots, Q, dC, dI, α, cI, cII, A⟩ := X
  intro H locs ls hl hP hS
  exact lv_imul hX.1 hX.2.1 hd (k H locs ls hl hP hS)
theorem s_iand {cc : ByteArray} {own : String} {nL : Nat} {rm : Room} {X : fsC} (hX : fs_ok cc own nL rm X) {pc : Nat} {L : List (Option Value)} {st : List Value} {σ : fsS} {μ : fsL} {x y : Int32} (hd : decode cc pc = .ok (.iand, 1)) (k : fs_PW X (pc + 1) L (.int (x &&& y) :: st) σ μ) : fs_PW X pc L (.int y :: .int x :: st) σ μ := by
  obtain ⟨p, l, e, R, s, m, args, below, meth, c, cells, slots, Q, dC, dI, α, cI, cII, A⟩ := X
  intro H locs ls hl hP hS
  exact lv_iand hX.1 hX.2.1 hd (k H locs ls hl hP hS)
theorem s_ior {cc : ByteArray} {own : String} {nL : Nat} {rm : Room} {X : fsC} (hX : fs_ok cc own nL rm X) {pc : Nat} {L : List (Option Value)} {st : List Value} {σ : fsS} {μ : fsL} {x y : Int32} (hd : decode cc pc = .ok (.ior, 1)) (k : fs_PW X (pc + 1) L (.int (x ||| y) :: st) σ μ) : fs_PW X pc L (.int y :: .int x :: st) σ μ := by
  obtain ⟨p, l, e, R, s, m, args, below, meth, c, cells, slots, Q, dC, dI, α, cI, cII, A⟩ := X
  intro H locs ls hl hP hS
  exact lv_ior hX.1 hX.2.1 hd (k H locs ls hl hP hS)
theorem s_ishl {cc : ByteArray} {own : String} {nL : Nat} {rm : Room} {X : fsC} (hX : fs_ok cc own nL rm X) {pc : Nat} {L : List (Option Value)} {st : List Value} {σ : fsS} {μ : fsL} {x y : Int32} (hd : decode cc pc = .ok (.ishl, 1)) (k : fs_PW X (pc + 1) L (.int (x <<< (y &&& 31)) :: st) σ μ) : fs_PW X pc L (.int y :: .int x :: st) σ μ := by
  obtain ⟨p, l, e, R, s, m, args, below, meth, c, cells, slots, Q, dC, dI, α, cI, cII, A⟩ := X
  intro H locs ls hl hP hS
  exact lv_ishl hX.1 hX.2.1 hd (k H locs ls hl hP hS)
theorem s_ishr {cc : ByteArray} {own : String} {nL : Nat} {rm : Room} {X : fsC} (hX : fs_ok cc own nL rm X) {pc : Nat} {L : List (Option Value)} {st : List Value} {σ : fsS} {μ : fsL} {x y : Int32} (hd : decode cc pc = .ok (.ishr, 1)) (k : fs_PW X (pc + 1) L (.int (x >>> (y &&& 31)) :: st) σ μ) : fs_PW X pc L (.int y :: .int x :: st) σ μ := by
  obtain ⟨p, l, e, R, s, m, args, below, meth, c, cells, slots, Q, dC, dI, α, cI, cII, A⟩ := X
  intro H locs ls hl hP hS
  exact lv_ishr hX.1 hX.2.1 hd (k H locs ls hl hP hS)
theorem s_idiv {cc : ByteArray} {own : String} {nL : Nat} {rm : Room} {X : fsC} (hX : fs_ok cc own nL rm X) {pc : Nat} {L : List (Option Value)} {st : List Value} {σ : fsS} {μ : fsL} {x y : Int32} (hd : decode cc pc = .ok (.idiv, 1)) (hne : ¬ y = 0) (k : fs_PW X (pc + 1) L (.int (x / y) :: st) σ μ) : fs_PW X pc L (.int y :: .int x :: st) σ μ := by
  obtain ⟨p, l, e, R, s, m, args, below, meth, c, cells, slots, Q, dC, dI, α, cI, cII, A⟩ := X
  intro H locs ls hl hP hS
  exact lv_idiv hX.1 hX.2.1 hd hne (k H locs ls hl hP hS)
theorem s_irem {cc : ByteArray} {own : String} {nL : Nat} {rm : Room} {X : fsC} (hX : fs_ok cc own nL rm X) {pc : Nat} {L : List (Option Value)} {st : List Value} {σ : fsS} {μ : fsL} {x y : Int32} (hd : decode cc pc = .ok (.irem, 1)) (hne : ¬ y = 0) (k : fs_PW X (pc + 1) L (.int (x - x / y * y) :: st) σ μ) : fs_PW X pc L (.int y :: .int x :: st) σ μ := by
  obtain ⟨p, l, e, R, s, m, args, below, meth, c, cells, slots, Q, dC, dI, α, cI, cII, A⟩ := X
  intro H locs ls hl hP hS
  exact lv_irem hX.1 hX.2.1 hd hne (k H locs ls hl hP hS)
theorem s_ladd {cc : ByteArray} {own : String} {nL : Nat} {rm : Room} {X : fsC} (hX : fs_ok cc own nL rm X) {pc : Nat} {L : List (Option Value)} {st : List Value} {σ : fsS} {μ : fsL} {x y : Int64} (hd : decode cc pc = .ok (.ladd, 1)) (k : fs_PW X (pc + 1) L (.long (x + y) :: st) σ μ) : fs_PW X pc L (.long y :: .long x :: st) σ μ := by
  obtain ⟨p, l, e, R, s, m, args, below, meth, c, cells, slots, Q, dC, dI, α, cI, cII, A⟩ := X
  intro H locs ls hl hP hS
  exact lv_ladd hX.1 hX.2.1 hd (k H locs ls hl hP hS)
theorem s_lsub {cc : ByteArray} {own : String} {nL : Nat} {rm : Room} {X : fsC} (hX : fs_ok cc own nL rm X) {pc : Nat} {L : List (Option Value)} {st : List Value} {σ : fsS} {μ : fsL} {x y : Int64} (hd : decode cc pc = .ok (.lsub, 1)) (k : fs_PW X (pc + 1) L (.long (x - y) :: st) σ μ) : fs_PW X pc L (.long y :: .long x :: st) σ μ := by
  obtain ⟨p, l, e, R, s, m, args, below, meth, c, cells, slots, Q, dC, dI, α, cI, cII, A⟩ := X
  intro H locs ls hl hP hS
  exact lv_lsub hX.1 hX.2.1 hd (k H locs ls hl hP hS)
theorem s_lmul {cc : ByteArray} {own : String} {nL : Nat} {rm : Room} {X : fsC} (hX : fs_ok cc own nL rm X) {pc : Nat} {L : List (Option Value)} {st : List Value} {σ : fsS} {μ : fsL} {x y : Int64} (hd : decode cc pc = .ok (.lmul, 1)) (k : fs_PW X (pc + 1) L (.long (x * y) :: st) σ μ) : fs_PW X pc L (.long y :: .long x :: st) σ μ := by
  obtain ⟨p, l, e, R, s, m, args, below, meth, c, cells, slots, Q, dC, dI, α, cI, cII, A⟩ := X
  intro H locs ls hl hP hS
  exact lv_lmul hX.1 hX.2.1 hd (k H locs ls hl hP hS)
theorem s_ldiv {cc : ByteArray} {own : String} {nL : Nat} {rm : Room} {X : fsC} (hX : fs_ok cc own nL rm X) {pc : Nat} {L : List (Option Value)} {st : List Value} {σ : fsS} {μ : fsL} {x y : Int64} (hd : decode cc pc = .ok (.ldiv, 1)) (hne : ¬ y = 0) (k : fs_PW X (pc + 1) L (.long (x / y) :: st) σ μ) : fs_PW X pc L (.long y :: .long x :: st) σ μ := by
  obtain ⟨p, l, e, R, s, m, args, below, meth, c, cells, slots, Q, dC, dI, α, cI, cII, A⟩ := X
  intro H locs ls hl hP hS
  exact lv_ldiv hX.1 hX.2.1 hd hne (k H locs ls hl hP hS)
theorem s_lrem {cc : ByteArray} {own : String} {nL : Nat} {rm : Room} {X : fsC} (hX : fs_ok cc own nL rm X) {pc : Nat} {L : List (Option Value)} {st : List Value} {σ : fsS} {μ : fsL} {x y : Int64} (hd : decode cc pc = .ok (.lrem, 1)) (hne : ¬ y = 0) (k : fs_PW X (pc + 1) L (.long (x - x / y * y) :: st) σ μ) : fs_PW X pc L (.long y :: .long x :: st) σ μ := by
  obtain ⟨p, l, e, R, s, m, args, below, meth, c, cells, slots, Q, dC, dI, α, cI, cII, A⟩ := X
  intro H locs ls hl hP hS
  exact lv_lrem hX.1 hX.2.1 hd hne (k H locs ls hl hP hS)
theorem s_lcmp {cc : ByteArray} {own : String} {nL : Nat} {rm : Room} {X : fsC} (hX : fs_ok cc own nL rm X) {pc : Nat} {L : List (Option Value)} {st : List Value} {σ : fsS} {μ : fsL} {x y : Int64} (hd : decode cc pc = .ok (.lcmp, 1)) (k : fs_PW X (pc + 1) L (.int (lg_cmp x y) :: st) σ μ) : fs_PW X pc L (.long y :: .long x :: st) σ μ := by
  obtain ⟨p, l, e, R, s, m, args, below, meth, c, cells, slots, Q, dC, dI, α, cI, cII, A⟩ := X
  intro H locs ls hl hP hS
  exact W.lcmp hX.1 hX.2.1 hd (k H locs ls hl hP hS)
theorem s_i2l {cc : ByteArray} {own : String} {nL : Nat} {rm : Room} {X : fsC} (hX : fs_ok cc own nL rm X) {pc : Nat} {L : List (Option Value)} {st : List Value} {σ : fsS} {μ : fsL} {x : Int32} (hd : decode cc pc = .ok (.i2l, 1)) (k : fs_PW X (pc + 1) L (.long x.toInt64 :: st) σ μ) : fs_PW X pc L (.int x :: st) σ μ := by
  obtain ⟨p, l, e, R, s, m, args, below, meth, c, cells, slots, Q, dC, dI, α, cI, cII, A⟩ := X
  intro H locs ls hl hP hS
  exact lv_i2l hX.1 hX.2.1 hd rfl (k H locs ls hl hP hS)
theorem s_l2i {cc : ByteArray} {own : String} {nL : Nat} {rm : Room} {X : fsC} (hX : fs_ok cc own nL rm X) {pc : Nat} {L : List (Option Value)} {st : List Value} {σ : fsS} {μ : fsL} {x : Int64} (hd : decode cc pc = .ok (.l2i, 1)) (k : fs_PW X (pc + 1) L (.int x.toInt32 :: st) σ μ) : fs_PW X pc L (.long x :: st) σ μ := by
  obtain ⟨p, l, e, R, s, m, args, below, meth, c, cells, slots, Q, dC, dI, α, cI, cII, A⟩ := X
  intro H locs ls hl hP hS
  exact lv_l2i hX.1 hX.2.1 hd rfl (k H locs ls hl hP hS)
theorem s_i2b {cc : ByteArray} {own : String} {nL : Nat} {rm : Room} {X : fsC} (hX : fs_ok cc own nL rm X) {pc : Nat} {L : List (Option Value)} {st : List Value} {σ : fsS} {μ : fsL} {x : Int32} (hd : decode cc pc = .ok (.i2b, 1)) (k : fs_PW X (pc + 1) L (.int x.toInt8.toInt32 :: st) σ μ) : fs_PW X pc L (.int x :: st) σ μ := by
  obtain ⟨p, l, e, R, s, m, args, below, meth, c, cells, slots, Q, dC, dI, α, cI, cII, A⟩ := X
  intro H locs ls hl hP hS
  exact lv_i2b hX.1 hX.2.1 hd rfl (k H locs ls hl hP hS)
theorem s_dup {cc : ByteArray} {own : String} {nL : Nat} {rm : Room} {X : fsC} (hX : fs_ok cc own nL rm X) {pc : Nat} {L : List (Option Value)} {st : List Value} {σ : fsS} {μ : fsL} {v : Value} (hd : decode cc pc = .ok (.dup, 1)) (hc : v.category = 1) (k : fs_PW X (pc + 1) L (v :: v :: st) σ μ) : fs_PW X pc L (v :: st) σ μ := by
  obtain ⟨p, l, e, R, s, m, args, below, meth, c, cells, slots, Q, dC, dI, α, cI, cII, A⟩ := X
  intro H locs ls hl hP hS
  exact lv_dup hX.1 hX.2.1 hd (by rw [fs_v_cat]; exact hc) (k H locs ls hl hP hS)
theorem s_pop {cc : ByteArray} {own : String} {nL : Nat} {rm : Room} {X : fsC} (hX : fs_ok cc own nL rm X) {pc : Nat} {L : List (Option Value)} {st : List Value} {σ : fsS} {μ : fsL} {v : Value} (hd : decode cc pc = .ok (.pop, 1)) (hc : v.category = 1) (k : fs_PW X (pc + 1) L (st) σ μ) : fs_PW X pc L (v :: st) σ μ := by
  obtain ⟨p, l, e, R, s, m, args, below, meth, c, cells, slots, Q, dC, dI, α, cI, cII, A⟩ := X
  intro H locs ls hl hP hS
  exact lv_pop hX.1 hX.2.1 hd (by rw [fs_v_cat]; exact hc) (k H locs ls hl hP hS)
theorem s_dup2 {cc : ByteArray} {own : String} {nL : Nat} {rm : Room} {X : fsC} (hX : fs_ok cc own nL rm X) {pc : Nat} {L : List (Option Value)} {st : List Value} {σ : fsS} {μ : fsL} {v v2 : Value} (hd : decode cc pc = .ok (.dup2, 1)) (hc : v.category = 1) (hc2 : v2.category = 1) (k : fs_PW X (pc + 1) L (v :: v2 :: v :: v2 :: st) σ μ) : fs_PW X pc L (v :: v2 :: st) σ μ := by
  obtain ⟨p, l, e, R, s, m, args, below, meth, c, cells, slots, Q, dC, dI, α, cI, cII, A⟩ := X
  intro H locs ls hl hP hS
  exact lv_dup2_11 hX.1 hX.2.1 hd (by rw [fs_v_cat]; exact hc) (by rw [fs_v_cat]; exact hc2) (k H locs ls hl hP hS)
theorem s_goto {cc : ByteArray} {own : String} {nL : Nat} {rm : Room} {X : fsC} (hX : fs_ok cc own nL rm X) {pc : Nat} {L : List (Option Value)} {st : List Value} {σ : fsS} {μ : fsL} {off : Int} (tgt : Nat) (hd : decode cc pc = .ok (.goto off, 3)) (ht : (pc : Int) + off = (tgt : Int)) (k : fs_PW X tgt L st σ μ) : fs_PW X pc L (st) σ μ := by
  obtain ⟨p, l, e, R, s, m, args, below, meth, c, cells, slots, Q, dC, dI, α, cI, cII, A⟩ := X
  intro H locs ls hl hP hS
  exact lv_goto hX.1 hX.2.1 hd ht (k H locs ls hl hP hS)
theorem s_if_eq {cc : ByteArray} {own : String} {nL : Nat} {rm : Room} {X : fsC} (hX : fs_ok cc own nL rm X) {pc : Nat} {L : List (Option Value)} {st : List Value} {σ : fsS} {μ : fsL} {x : Int32} {off : Int} (tgt : Nat) (hd : decode cc pc = .ok (.ifCond .eq off, 3)) (ht : (pc : Int) + off = (tgt : Int)) (kt : x = 0 → fs_PW X tgt L st σ μ) (kf : ¬ x = 0 → fs_PW X (pc + 3) L st σ μ) : fs_PW X pc L (.int x :: st) σ μ := by
  obtain ⟨p, l, e, R, s, m, args, below, meth, c, cells, slots, Q, dC, dI, α, cI, cII, A⟩ := X
  intro H locs ls hl hP hS
  exact lv_if_eq hX.1 hX.2.1 hd ht (fun h => kt h H locs ls hl hP hS) (fun h => kf h H locs ls hl hP hS)
theorem s_ic_eq {cc : ByteArray} {own : String} {nL : Nat} {rm : Room} {X : fsC} (hX : fs_ok cc own nL rm X) {pc : Nat} {L : List (Option Value)} {st : List Value} {σ : fsS} {μ : fsL} {x y : Int32} {off : Int} (tgt : Nat) (hd : decode cc pc = .ok (.if_icmp .eq off, 3)) (ht : (pc : Int) + off = (tgt : Int)) (kt : x = y → fs_PW X tgt L st σ μ) (kf : ¬ x = y → fs_PW X (pc + 3) L st σ μ) : fs_PW X pc L (.int y :: .int x :: st) σ μ := by
  obtain ⟨p, l, e, R, s, m, args, below, meth, c, cells, slots, Q, dC, dI, α, cI, cII, A⟩ := X
  intro H locs ls hl hP hS
  exact lv_icmp_eq hX.1 hX.2.1 hd ht (fun h => kt h H locs ls hl hP hS) (fun h => kf h H locs ls hl hP hS)
theorem s_if_ne {cc : ByteArray} {own : String} {nL : Nat} {rm : Room} {X : fsC} (hX : fs_ok cc own nL rm X) {pc : Nat} {L : List (Option Value)} {st : List Value} {σ : fsS} {μ : fsL} {x : Int32} {off : Int} (tgt : Nat) (hd : decode cc pc = .ok (.ifCond .ne off, 3)) (ht : (pc : Int) + off = (tgt : Int)) (kt : ¬ x = 0 → fs_PW X tgt L st σ μ) (kf : x = 0 → fs_PW X (pc + 3) L st σ μ) : fs_PW X pc L (.int x :: st) σ μ := by
  obtain ⟨p, l, e, R, s, m, args, below, meth, c, cells, slots, Q, dC, dI, α, cI, cII, A⟩ := X
  intro H locs ls hl hP hS
  exact lv_if_ne hX.1 hX.2.1 hd ht (fun h => kt h H locs ls hl hP hS) (fun h => kf h H locs ls hl hP hS)
theorem s_ic_ne {cc : ByteArray} {own : String} {nL : Nat} {rm : Room} {X : fsC} (hX : fs_ok cc own nL rm X) {pc : Nat} {L : List (Option Value)} {st : List Value} {σ : fsS} {μ : fsL} {x y : Int32} {off : Int} (tgt : Nat) (hd : decode cc pc = .ok (.if_icmp .ne off, 3)) (ht : (pc : Int) + off = (tgt : Int)) (kt : ¬ x = y → fs_PW X tgt L st σ μ) (kf : x = y → fs_PW X (pc + 3) L st σ μ) : fs_PW X pc L (.int y :: .int x :: st) σ μ := by
  obtain ⟨p, l, e, R, s, m, args, below, meth, c, cells, slots, Q, dC, dI, α, cI, cII, A⟩ := X
  intro H locs ls hl hP hS
  exact lv_icmp_ne hX.1 hX.2.1 hd ht (fun h => kt h H locs ls hl hP hS) (fun h => kf h H locs ls hl hP hS)
theorem s_if_lt {cc : ByteArray} {own : String} {nL : Nat} {rm : Room} {X : fsC} (hX : fs_ok cc own nL rm X) {pc : Nat} {L : List (Option Value)} {st : List Value} {σ : fsS} {μ : fsL} {x : Int32} {off : Int} (tgt : Nat) (hd : decode cc pc = .ok (.ifCond .lt off, 3)) (ht : (pc : Int) + off = (tgt : Int)) (kt : x < 0 → fs_PW X tgt L st σ μ) (kf : ¬ x < 0 → fs_PW X (pc + 3) L st σ μ) : fs_PW X pc L (.int x :: st) σ μ := by
  obtain ⟨p, l, e, R, s, m, args, below, meth, c, cells, slots, Q, dC, dI, α, cI, cII, A⟩ := X
  intro H locs ls hl hP hS
  exact lv_if_lt hX.1 hX.2.1 hd ht (fun h => kt h H locs ls hl hP hS) (fun h => kf h H locs ls hl hP hS)
theorem s_ic_lt {cc : ByteArray} {own : String} {nL : Nat} {rm : Room} {X : fsC} (hX : fs_ok cc own nL rm X) {pc : Nat} {L : List (Option Value)} {st : List Value} {σ : fsS} {μ : fsL} {x y : Int32} {off : Int} (tgt : Nat) (hd : decode cc pc = .ok (.if_icmp .lt off, 3)) (ht : (pc : Int) + off = (tgt : Int)) (kt : x < y → fs_PW X tgt L st σ μ) (kf : ¬ x < y → fs_PW X (pc + 3) L st σ μ) : fs_PW X pc L (.int y :: .int x :: st) σ μ := by
  obtain ⟨p, l, e, R, s, m, args, below, meth, c, cells, slots, Q, dC, dI, α, cI, cII, A⟩ := X
  intro H locs ls hl hP hS
  exact lv_icmp_lt hX.1 hX.2.1 hd ht (fun h => kt h H locs ls hl hP hS) (fun h => kf h H locs ls hl hP hS)
theorem s_if_ge {cc : ByteArray} {own : String} {nL : Nat} {rm : Room} {X : fsC} (hX : fs_ok cc own nL rm X) {pc : Nat} {L : List (Option Value)} {st : List Value} {σ : fsS} {μ : fsL} {x : Int32} {off : Int} (tgt : Nat) (hd : decode cc pc = .ok (.ifCond .ge off, 3)) (ht : (pc : Int) + off = (tgt : Int)) (kt : 0 ≤ x → fs_PW X tgt L st σ μ) (kf : ¬ 0 ≤ x → fs_PW X (pc + 3) L st σ μ) : fs_PW X pc L (.int x :: st) σ μ := by
  obtain ⟨p, l, e, R, s, m, args, below, meth, c, cells, slots, Q, dC, dI, α, cI, cII, A⟩ := X
  intro H locs ls hl hP hS
  exact lv_if_ge hX.1 hX.2.1 hd ht (fun h => kt h H locs ls hl hP hS) (fun h => kf h H locs ls hl hP hS)
theorem s_ic_ge {cc : ByteArray} {own : String} {nL : Nat} {rm : Room} {X : fsC} (hX : fs_ok cc own nL rm X) {pc : Nat} {L : List (Option Value)} {st : List Value} {σ : fsS} {μ : fsL} {x y : Int32} {off : Int} (tgt : Nat) (hd : decode cc pc = .ok (.if_icmp .ge off, 3)) (ht : (pc : Int) + off = (tgt : Int)) (kt : y ≤ x → fs_PW X tgt L st σ μ) (kf : ¬ y ≤ x → fs_PW X (pc + 3) L st σ μ) : fs_PW X pc L (.int y :: .int x :: st) σ μ := by
  obtain ⟨p, l, e, R, s, m, args, below, meth, c, cells, slots, Q, dC, dI, α, cI, cII, A⟩ := X
  intro H locs ls hl hP hS
  exact lv_icmp_ge hX.1 hX.2.1 hd ht (fun h => kt h H locs ls hl hP hS) (fun h => kf h H locs ls hl hP hS)
theorem s_if_gt {cc : ByteArray} {own : String} {nL : Nat} {rm : Room} {X : fsC} (hX : fs_ok cc own nL rm X) {pc : Nat} {L : List (Option Value)} {st : List Value} {σ : fsS} {μ : fsL} {x : Int32} {off : Int} (tgt : Nat) (hd : decode cc pc = .ok (.ifCond .gt off, 3)) (ht : (pc : Int) + off = (tgt : Int)) (kt : 0 < x → fs_PW X tgt L st σ μ) (kf : ¬ 0 < x → fs_PW X (pc + 3) L st σ μ) : fs_PW X pc L (.int x :: st) σ μ := by
  obtain ⟨p, l, e, R, s, m, args, below, meth, c, cells, slots, Q, dC, dI, α, cI, cII, A⟩ := X
  intro H locs ls hl hP hS
  exact lv_if_gt hX.1 hX.2.1 hd ht (fun h => kt h H locs ls hl hP hS) (fun h => kf h H locs ls hl hP hS)
theorem s_ic_gt {cc : ByteArray} {own : String} {nL : Nat} {rm : Room} {X : fsC} (hX : fs_ok cc own nL rm X) {pc : Nat} {L : List (Option Value)} {st : List Value} {σ : fsS} {μ : fsL} {x y : Int32} {off : Int} (tgt : Nat) (hd : decode cc pc = .ok (.if_icmp .gt off, 3)) (ht : (pc : Int) + off = (tgt : Int)) (kt : y < x → fs_PW X tgt L st σ μ) (kf : ¬ y < x → fs_PW X (pc + 3) L st σ μ) : fs_PW X pc L (.int y :: .int x :: st) σ μ := by
  obtain ⟨p, l, e, R, s, m, args, below, meth, c, cells, slots, Q, dC, dI, α, cI, cII, A⟩ := X
  intro H locs ls hl hP hS
  exact lv_icmp_gt hX.1 hX.2.1 hd ht (fun h => kt h H locs ls hl hP hS) (fun h => kf h H locs ls hl hP hS)
theorem s_if_le {cc : ByteArray} {own : String} {nL : Nat} {rm : Room} {X : fsC} (hX : fs_ok cc own nL rm X) {pc : Nat} {L : List (Option Value)} {st : List Value} {σ : fsS} {μ : fsL} {x : Int32} {off : Int} (tgt : Nat) (hd : decode cc pc = .ok (.ifCond .le off, 3)) (ht : (pc : Int) + off = (tgt : Int)) (kt : x ≤ 0 → fs_PW X tgt L st σ μ) (kf : ¬ x ≤ 0 → fs_PW X (pc + 3) L st σ μ) : fs_PW X pc L (.int x :: st) σ μ := by
  obtain ⟨p, l, e, R, s, m, args, below, meth, c, cells, slots, Q, dC, dI, α, cI, cII, A⟩ := X
  intro H locs ls hl hP hS
  exact lv_if_le hX.1 hX.2.1 hd ht (fun h => kt h H locs ls hl hP hS) (fun h => kf h H locs ls hl hP hS)
theorem s_ic_le {cc : ByteArray} {own : String} {nL : Nat} {rm : Room} {X : fsC} (hX : fs_ok cc own nL rm X) {pc : Nat} {L : List (Option Value)} {st : List Value} {σ : fsS} {μ : fsL} {x y : Int32} {off : Int} (tgt : Nat) (hd : decode cc pc = .ok (.if_icmp .le off, 3)) (ht : (pc : Int) + off = (tgt : Int)) (kt : x ≤ y → fs_PW X tgt L st σ μ) (kf : ¬ x ≤ y → fs_PW X (pc + 3) L st σ μ) : fs_PW X pc L (.int y :: .int x :: st) σ μ := by
  obtain ⟨p, l, e, R, s, m, args, below, meth, c, cells, slots, Q, dC, dI, α, cI, cII, A⟩ := X
  intro H locs ls hl hP hS
  exact lv_icmp_le hX.1 hX.2.1 hd ht (fun h => kt h H locs ls hl hP hS) (fun h => kf h H locs ls hl hP hS)
theorem s_ldc {cc : ByteArray} {own : String} {nL : Nat} {rm : Room} {X : fsC} (hX : fs_ok cc own nL rm X) {pc : Nat} {L : List (Option Value)} {st : List Value} {σ : fsS} {μ : fsL} {i : Nat} (v : Int32) (hd : decode cc pc = .ok (.ldc i, 2)) (hc : Cond.constant own i v ∈ fs_ws) (k : fs_PW X (pc + 2) L (.int v :: st) σ μ) : fs_PW X pc L (st) σ μ := by
  obtain ⟨p, l, e, R, s, m, args, below, meth, c, cells, slots, Q, dC, dI, α, cI, cII, A⟩ := X
  intro H locs ls hl hP hS
  exact lv_ldc hX.1 hX.2.1 hX.2.2.2.1 (hX.2.2.2.2.1 _ hc) hd (k H locs ls hl hP hS)
theorem s_ldc_w {cc : ByteArray} {own : String} {nL : Nat} {rm : Room} {X : fsC} (hX : fs_ok cc own nL rm X) {pc : Nat} {L : List (Option Value)} {st : List Value} {σ : fsS} {μ : fsL} {i : Nat} (v : Int32) (hd : decode cc pc = .ok (.ldc_w i, 3)) (hc : Cond.constant own i v ∈ fs_ws) (k : fs_PW X (pc + 3) L (.int v :: st) σ μ) : fs_PW X pc L (st) σ μ := by
  obtain ⟨p, l, e, R, s, m, args, below, meth, c, cells, slots, Q, dC, dI, α, cI, cII, A⟩ := X
  intro H locs ls hl hP hS
  exact lv_ldcw hX.1 hX.2.1 hX.2.2.2.1 (hX.2.2.2.2.1 _ hc) hd (k H locs ls hl hP hS)
theorem s_ldc2 {cc : ByteArray} {own : String} {nL : Nat} {rm : Room} {X : fsC} (hX : fs_ok cc own nL rm X) {pc : Nat} {L : List (Option Value)} {st : List Value} {σ : fsS} {μ : fsL} {i : Nat} (v : Int64) (hd : decode cc pc = .ok (.ldc2_w i, 3)) (hc : Cond.constantLong own i v ∈ fs_ws) (k : fs_PW X (pc + 3) L (.long v :: st) σ μ) : fs_PW X pc L (st) σ μ := by
  obtain ⟨p, l, e, R, s, m, args, below, meth, c, cells, slots, Q, dC, dI, α, cI, cII, A⟩ := X
  intro H locs ls hl hP hS
  exact lv_ldc2 hX.1 hX.2.1 hX.2.2.2.1 (hX.2.2.2.2.1 _ hc) hd (k H locs ls hl hP hS)
/-- entry 'index' of class own's constants names the field j of the class ci -/
def fs_fl (own : String) (index ci j : Nat) : Prop := ∃ (C : String) (T : u_T) (N : Nat), vwCl[ci]? = some (C, T, N) ∧ (∀ w ∈ u_ws C T N, w ∈ fs_ws) ∧ j < N ∧ Cond.fieldLink own index C (T j).2.1 (T j).2.2.1 ∈ fs_ws ∧ (T j).1 = C
def fs_fp (own : String) (index ci j : Nat) (ty : FieldType) : Prop := ∃ (C : String) (T : u_T) (N : Nat) (ty0 : Nat → FieldType), vwCl[ci]? = some (C, T, N) ∧ (∀ w ∈ u_ws C T N, w ∈ fs_ws) ∧ j < N ∧ Cond.fieldLink own index C (T j).2.1 (T j).2.2.1 ∈ fs_ws ∧ (T j).1 = C ∧ (∀ k, k < N → parseFieldDescriptor (T k).2.2.1 = some (ty0 k)) ∧ (∀ a, a < N → ∀ b, b < N → a ≠ b → (T a).2.1 ≠ (T b).2.1) ∧ (T j).2.2.2 = false ∧ parseFieldDescriptor (T j).2.2.1 = some ty
def fs_fd (k ci j : Nat) : Option (Nat ⊕ Bool) := match fs_tp[k]? with
  | some (.inl (c, fs)) => if c = ci then fs[j]? else none
  | _ => none
theorem fs_fd_of {k ci j : Nat} {f : Nat ⊕ Bool} (h : fs_fd k ci j = some f) : ∃ fs, fs_tp[k]? = some (.inl (ci, fs)) ∧ fs[j]? = some f := by
  unfold fs_fd at h
  split at h
  · rename_i c fs he
    by_cases hc : c = ci
    · rw [if_pos hc] at h
      subst hc
      exact ⟨fs, he, h⟩
    · rw [if_neg hc] at h; cases h
  · cases h
def fs_len (k : Nat) : Nat := match fs_tp[k]? with
  | some (.inr (.inl n)) => n
  | _ => 0
theorem fs_len_of {k : Nat} {i : Int32} (h : vp_in i (fs_len k)) : fs_tp[k]? = some (.inr (.inl (fs_len k))) := by
  have h0 : ¬ fs_len k = 0 := fun e => h (Or.inr (by rw [e]; exact Nat.zero_le _))
  unfold fs_len at h0 ⊢
  split at h0
  · rename_i n he
    exact he
  · exact absurd rfl h0
def fs_rb (k : Nat) : Nat × Nat := match fs_tp[k]? with
  | some (.inr (.inr q)) => q
  | _ => (0, 0)
theorem fs_rb_of {k : Nat} {i : Int32} (h : vp_in i (fs_rb k).2) : fs_tp[k]? = some (.inr (.inr (fs_rb k))) := by
  have h0 : ¬ (fs_rb k).2 = 0 := fun e => h (Or.inr (by rw [e]; exact Nat.zero_le _))
  unfold fs_rb at h0 ⊢
  split at h0
  · rename_i n he
    exact he
  · exact absurd rfl h0
theorem s_get {cc : ByteArray} {own : String} {nL : Nat} {rm : Room} {X : fsC} (hX : fs_ok cc own nL rm X) {pc : Nat} {L : List (Option Value)} {st : List Value} {σ : fsS} {μ : fsL} {o index ci j : Nat} {f : Nat ⊕ Bool} (hd : decode cc pc = .ok (.getfield index, 3)) (hf : fs_fl own index ci j) (hv : fs_fd o ci j = some f) (k : fs_PW X (pc + 3) L (fs_f σ μ o j f :: st) σ μ) : fs_PW X pc L (.ref o :: st) σ μ := by
  obtain ⟨p, l, e, R, s, m, args, below, meth, c, cells, slots, Q, dC, dI, α, cI, cII, A⟩ := X
  intro H locs ls hl hP hS
  obtain ⟨C, T, N, h1, h2, h3, h4, h5⟩ := hf
  obtain ⟨fs, g1, g2⟩ := fs_fd_of hv
  refine va_get (D := (dC, dI)) (v := fs_v α (fs_f σ μ o j f)) hX.1 hX.2.1 hX.2.2.2.2.1 h2 hX.2.2.2.1 hX.2.2.2.2.2.1 hP o (fs_w_get g1) h1 j h3 (hX.2.2.2.2.1 _ h4) (fun x hx => by rw [← h5]; exact hx) (by rw [List.getElem?_mapIdx, g2]; rfl) hd (k H locs ls hl hP hS)
theorem s_puti {cc : ByteArray} {own : String} {nL : Nat} {rm : Room} {X : fsC} (hX : fs_ok cc own nL rm X) {pc : Nat} {L : List (Option Value)} {st : List Value} {σ : fsS} {μ : fsL} {o index ci j : Nat} {x : Int32} (hd : decode cc pc = .ok (.putfield index, 3)) (hf : fs_fp own index ci j .int) (hv : fs_fd o ci j = some (.inr false)) (k : fs_PW X (pc + 3) L st (fs_u σ o j x) μ) : fs_PW X pc L (.int x :: .ref o :: st) σ μ := by
  obtain ⟨p, l, e, R, s, m, args, below, meth, c, cells, slots, Q, dC, dI, α, cI, cII, A⟩ := X
  intro H locs ls hl hP hS
  obtain ⟨C, T, N, ty0, h1, h2, h3, h4, h5, h6, h7, h8, h9⟩ := hf
  obtain ⟨fs, g1, g2⟩ := fs_fd_of hv
  refine va_put (D := (dC, dI)) (A := A) (v := .int x) (ty := .int) hX.1 hX.2.1 hX.2.2.2.2.1 h2 ty0 h6 h7 hX.2.2.2.1 hX.2.2.2.2.2.1 hP (fs_D hX.2.2.2.2.2.2.1 hX.2.2.2.2.2.2.2.1 σ μ) hS o (fs_w_get g1) h1 j h3 (hX.2.2.2.2.1 _ h4) (fun x hx => by rw [← h5]; exact hx) h8 h9 rfl rfl (by rw [List.length_mapIdx]; exact (List.getElem?_eq_some_iff.mp g2).1) hd (fun H1 locs1 hP1 _ hS1 => k H1 locs1 ls hl (by rw [fs_w_setI g1 g2] at hP1; exact hP1) hS1)
theorem s_putl {cc : ByteArray} {own : String} {nL : Nat} {rm : Room} {X : fsC} (hX : fs_ok cc own nL rm X) {pc : Nat} {L : List (Option Value)} {st : List Value} {σ : fsS} {μ : fsL} {o index ci j : Nat} {x : Int64} (hd : decode cc pc = .ok (.putfield index, 3)) (hf : fs_fp own index ci j .long) (hv : fs_fd o ci j = some (.inr true)) (k : fs_PW X (pc + 3) L st σ (fs_ul μ o j x)) : fs_PW X pc L (.long x :: .ref o :: st) σ μ := by
  obtain ⟨p, l, e, R, s, m, args, below, meth, c, cells, slots, Q, dC, dI, α, cI, cII, A⟩ := X
  intro H locs ls hl hP hS
  obtain ⟨C, T, N, ty0, h1, h2, h3, h4, h5, h6, h7, h8, h9⟩ := hf
  obtain ⟨fs, g1, g2⟩ := fs_fd_of hv
  refine va_put (D := (dC, dI)) (A := A) (v := .long x) (ty := .long) hX.1 hX.2.1 hX.2.2.2.2.1 h2 ty0 h6 h7 hX.2.2.2.1 hX.2.2.2.2.2.1 hP (fs_D hX.2.2.2.2.2.2.1 hX.2.2.2.2.2.2.2.1 σ μ) hS o (fs_w_get g1) h1 j h3 (hX.2.2.2.2.1 _ h4) (fun x hx => by rw [← h5]; exact hx) h8 h9 rfl rfl (by rw [List.length_mapIdx]; exact (List.getElem?_eq_some_iff.mp g2).1) hd (fun H1 locs1 hP1 _ hS1 => k H1 locs1 ls hl (by rw [fs_w_setL g1 g2] at hP1; exact hP1) hS1)
theorem s_iald {cc : ByteArray} {own : String} {nL : Nat} {rm : Room} {X : fsC} (hX : fs_ok cc own nL rm X) {pc : Nat} {L : List (Option Value)} {st : List Value} {σ : fsS} {μ : fsL} {a : Nat} {i : Int32} (hd : decode cc pc = .ok (.iaload, 1)) (hin : vp_in i (fs_len a)) (k : fs_PW X (pc + 1) L (.int (σ a i.toNatClampNeg) :: st) σ μ) : fs_PW X pc L (.int i :: .ref a :: st) σ μ := by
  obtain ⟨p, l, e, R, s, m, args, below, meth, c, cells, slots, Q, dC, dI, α, cI, cII, A⟩ := X
  intro H locs ls hl hP hS
  exact va_iald (D := (dC, dI)) hX.1 hX.2.1 hX.2.2.2.2.2.1 hP a 0 (fs_w_get (fs_len_of hin)) rfl hin hd (k H locs ls hl hP hS)
theorem s_iast {cc : ByteArray} {own : String} {nL : Nat} {rm : Room} {X : fsC} (hX : fs_ok cc own nL rm X) {pc : Nat} {L : List (Option Value)} {st : List Value} {σ : fsS} {μ : fsL} {a : Nat} {i x : Int32} (hd : decode cc pc = .ok (.iastore, 1)) (hin : vp_in i (fs_len a)) (k : fs_PW X (pc + 1) L st (fs_u σ a i.toNatClampNeg x) μ) : fs_PW X pc L (.int x :: .int i :: .ref a :: st) σ μ := by
  obtain ⟨p, l, e, R, s, m, args, below, meth, c, cells, slots, Q, dC, dI, α, cI, cII, A⟩ := X
  intro H locs ls hl hP hS
  refine va_iast (D := (dC, dI)) (A := A) hX.1 hX.2.1 hX.2.2.2.2.2.1 hP (fs_D hX.2.2.2.2.2.2.1 hX.2.2.2.2.2.2.2.1 σ μ) hS a 0 (fs_w_get (fs_len_of hin)) rfl hin hd (fun H1 locs1 hP1 _ hS1 => k H1 locs1 ls hl ?_ hS1)
  rw [fs_w_setA (fs_len_of hin)] at hP1
  exact hP1
theorem s_aald {cc : ByteArray} {own : String} {nL : Nat} {rm : Room} {X : fsC} (hX : fs_ok cc own nL rm X) {pc : Nat} {L : List (Option Value)} {st : List Value} {σ : fsS} {μ : fsL} {a : Nat} {i : Int32} (hd : decode cc pc = .ok (.aaload, 1)) (hin : vp_in i (fs_rb a).2) (k : fs_PW X (pc + 1) L (.ref ((fs_rb a).1 + i.toNatClampNeg) :: st) σ μ) : fs_PW X pc L (.int i :: .ref a :: st) σ μ := by
  obtain ⟨p, l, e, R, s, m, args, below, meth, c, cells, slots, Q, dC, dI, α, cI, cII, A⟩ := X
  intro H locs ls hl hP hS
  have hlt : i.toNatClampNeg < (fs_rb a).2 := Nat.not_le.mp fun q => hin (Or.inr q)
  have hw := fs_w_get (cI := cI) (cII := cII) (α := α) (σ := σ) (μ := μ) (fs_rb_of hin)
  refine W.aald (v := .ref (α ((fs_rb a).1 + i.toNatClampNeg))) (ty := .array .int) hX.1 hX.2.1 (hP a _ hw) ((hX.2.2.2.2.2.1.2 1 _ rfl).1 (fs_rb a).2 (fun j => va_rf (if j < (fs_rb a).2 then some (α ((fs_rb a).1 + j)) else none))) rfl (fun q => by cases q) (by show ¬ (i < 0 ∨ (arrV _ _ _).slots.size ≤ _); rw [arrV_size]; exact hin) (by show (arrV _ _ _).slots[_]? = _; rw [arrV_read _ _ hlt]; show some (va_rf (if i.toNatClampNeg < (fs_rb a).2 then some (α ((fs_rb a).1 + i.toNatClampNeg)) else none)) = _; rw [if_pos hlt]; rfl) rfl rfl hd (k H locs ls hl hP hS)
theorem s_alen {cc : ByteArray} {own : String} {nL : Nat} {rm : Room} {X : fsC} (hX : fs_ok cc own nL rm X) {pc : Nat} {L : List (Option Value)} {st : List Value} {σ : fsS} {μ : fsL} {a : Nat} (hd : decode cc pc = .ok (.arraylength, 1)) (hn : ¬ fs_len a = 0) (k : fs_PW X (pc + 1) L (.int (Int32.ofNat (fs_len a)) :: st) σ μ) : fs_PW X pc L (.ref a :: st) σ μ := by
  obtain ⟨p, l, e, R, s, m, args, below, meth, c, cells, slots, Q, dC, dI, α, cI, cII, A⟩ := X
  intro H locs ls hl hP hS
  have hin : vp_in 0 (fs_len a) := by
    rintro (h | h)
    · exact absurd h (by decide)
    · exact hn (Nat.le_zero.mp h)
  exact va_alen (D := (dC, dI)) hX.1 hX.2.1 hX.2.2.2.2.2.1 hP a 0 (fs_w_get (fs_len_of hin)) (ty := .int) rfl rfl hd (k H locs ls hl hP hS)
def fs_m1 (own : String) (index : Nat) (y : MethodName) (code : ByteArray) (n : Nat) : Prop := Cond.methodLink own index y ∈ fs_ws ∧ Cond.static y ∈ fs_ws ∧ Cond.initialized "java/lang/Math" ∈ fs_ws ∧ Cond.code y code n (some .int) ∈ fs_ws
theorem fs_cat_map (α : Nat → Nat) (st : List Value) : ((st.map (fs_v α)).map fun v => v.category) = st.map fun v => v.category := by
  rw [List.map_map]
  congr 1
  funext v
  exact fs_v_cat α v
theorem s_mmax {cc : ByteArray} {own : String} {nL : Nat} {rm : Room} {X : fsC} (hX : fs_ok cc own nL rm X) {pc : Nat} {L : List (Option Value)} {st : List Value} {σ : fsS} {μ : fsL} {index : Nat} {x y : Int32} (hd : decode cc pc = .ok (.invokestatic index, 3)) (hw : fs_m1 own index Lib.Math.max.name Lib.Math.max.code 2) (hL : L.length = nL) (hf : 1 ≤ rm.frames) (hlo : (st.map fun v => v.category).sum + 13 ≤ rm.locals) (k : fs_PW X (pc + 3) L (.int (if x < y then y else x) :: st) σ μ) : fs_PW X pc L (.int y :: .int x :: st) σ μ := by
  obtain ⟨p, l, e, R, s, m, args, below, meth, c, cells, slots, Q, dC, dI, α, cI, cII, A⟩ := X
  intro H locs ls hl hP hS
  obtain ⟨hx, hb, hml, hown, hts, hK, hinj, hA, rfl, hce, hsl⟩ := hX
  refine va_mmax hx hb (by rw [hml, hl.1, hL]) hown (hts _ hw.1) (hts _ hw.2.1) (hts _ hw.2.2.1) (hts _ hw.2.2.2) hf (by rw [fs_cat_map]; exact hlo) hce hsl hd (k H locs ls hl hP hS)
theorem s_mmin {cc : ByteArray} {own : String} {nL : Nat} {rm : Room} {X : fsC} (hX : fs_ok cc own nL rm X) {pc : Nat} {L : List (Option Value)} {st : List Value} {σ : fsS} {μ : fsL} {index : Nat} {x y : Int32} (hd : decode cc pc = .ok (.invokestatic index, 3)) (hw : fs_m1 own index Lib.Math.min.name Lib.Math.min.code 2) (hL : L.length = nL) (hf : 1 ≤ rm.frames) (hlo : (st.map fun v => v.category).sum + 13 ≤ rm.locals) (k : fs_PW X (pc + 3) L (.int (if y < x then y else x) :: st) σ μ) : fs_PW X pc L (.int y :: .int x :: st) σ μ := by
  obtain ⟨p, l, e, R, s, m, args, below, meth, c, cells, slots, Q, dC, dI, α, cI, cII, A⟩ := X
  intro H locs ls hl hP hS
  obtain ⟨hx, hb, hml, hown, hts, hK, hinj, hA, rfl, hce, hsl⟩ := hX
  refine va_mmin hx hb (by rw [hml, hl.1, hL]) hown (hts _ hw.1) (hts _ hw.2.1) (hts _ hw.2.2.1) (hts _ hw.2.2.2) hf (by rw [fs_cat_map]; exact hlo) hce hsl hd (k H locs ls hl hP hS)
theorem s_mabs {cc : ByteArray} {own : String} {nL : Nat} {rm : Room} {X : fsC} (hX : fs_ok cc own nL rm X) {pc : Nat} {L : List (Option Value)} {st : List Value} {σ : fsS} {μ : fsL} {index : Nat} {x : Int32} (hd : decode cc pc = .ok (.invokestatic index, 3)) (hw : fs_m1 own index Lib.Math.abs.name Lib.Math.abs.code 1) (hL : L.length = nL) (hf : 1 ≤ rm.frames) (hlo : (st.map fun v => v.category).sum + 13 ≤ rm.locals) (k : fs_PW X (pc + 3) L (.int (if 0 ≤ x then x else 0 - x) :: st) σ μ) : fs_PW X pc L (.int x :: st) σ μ := by
  obtain ⟨p, l, e, R, s, m, args, below, meth, c, cells, slots, Q, dC, dI, α, cI, cII, A⟩ := X
  intro H locs ls hl hP hS
  obtain ⟨hx, hb, hml, hown, hts, hK, hinj, hA, rfl, hce, hsl⟩ := hX
  refine va_mabs hx hb (by rw [hml, hl.1, hL]) hown (hts _ hw.1) (hts _ hw.2.1) (hts _ hw.2.2.1) (hts _ hw.2.2.2) hf (by rw [fs_cat_map]; exact hlo) hce hsl hd (k H locs ls hl hP hS)
def fs_ac (own : String) (index : Nat) : Prop := Cond.methodLink own index arraycopyName ∈ fs_ws ∧ Cond.native arraycopyName ∈ fs_ws ∧ Cond.static arraycopyName ∈ fs_ws ∧ Cond.initialized "java/lang/System" ∈ fs_ws
theorem s_acopy {cc : ByteArray} {own : String} {nL : Nat} {rm : Room} {X : fsC} (hX : fs_ok cc own nL rm X) {pc : Nat} {L : List (Option Value)} {st : List Value} {σ : fsS} {μ : fsL} {index a b : Nat} {sp dp n : Int32} (hd : decode cc pc = .ok (.invokestatic index, 3)) (hw : fs_ac own index) (h1 : ¬ sp < 0) (h2 : ¬ dp < 0) (h3 : ¬ n < 0) (h40 : ¬ fs_len a = 0) (h50 : ¬ fs_len b = 0) (h4 : sp.toNatClampNeg + n.toNatClampNeg ≤ fs_len a) (h5 : dp.toNatClampNeg + n.toNatClampNeg ≤ fs_len b) (hL : L.length = nL) (hf : 1 ≤ rm.frames) (hlo : (st.map fun v => v.category).sum + (nativeFrameWords "java/lang/System" "arraycopy" 5 + 11) ≤ rm.locals) (k : fs_PW X (pc + 3) L st (fs_s σ b (va_cpy (σ a) (σ b) sp.toNatClampNeg dp.toNatClampNeg n.toNatClampNeg)) μ) : fs_PW X pc L (.int n :: .int dp :: .ref b :: .int sp :: .ref a :: st) σ μ := by
  obtain ⟨p, l, e, R, s, m, args, below, meth, c, cells, slots, Q, dC, dI, α, cI, cII, A⟩ := X
  intro H locs ls hl hP hS
  obtain ⟨hx, hb, hml, hown, hts, hK, hinj, hA, rfl, hce, hsl⟩ := hX
  have ta : fs_tp[a]? = some (.inr (.inl (fs_len a))) := fs_len_of (i := 0) (by
    rintro (h | h)
    · exact absurd h (by decide)
    · exact h40 (Nat.le_zero.mp h))
  have tb : fs_tp[b]? = some (.inr (.inl (fs_len b))) := fs_len_of (i := 0) (by
    rintro (h | h)
    · exact absurd h (by decide)
    · exact h50 (Nat.le_zero.mp h))
  refine va_copyi (D := (dC, dI)) (A := A) (ty := .int) hx hb (by rw [hml, hl.1, hL]) hown (hts _ hw.1) (hts _ hw.2.1) (hts _ hw.2.2.1) (hts _ hw.2.2.2) hK hP (fs_D hinj hA σ μ) hS a b 0 0 (fs_w_get ta) (fs_w_get tb) rfl rfl rfl h1 h2 h3 h4 h5 (fun _ _ => rfl) hf (by rw [fs_cat_map]; exact hlo) hd (fun H1 locs1 hP1 _ hS1 => k H1 locs1 ls hl ?_ hS1)
  rw [fs_w_setA tb] at hP1
  exact hP1
theorem s_tabOut {cc : ByteArray} {own : String} {nL : Nat} {rm : Room} {X : fsC} (hX : fs_ok cc own nL rm X) {pc : Nat} {L : List (Option Value)} {st : List Value} {σ : fsS} {μ : fsL} {dflt lo hi : Int} {offs : Array Int} {len : Nat} {x : Int32} (tgt : Nat) (hd : decode cc pc = .ok (.tableswitch dflt lo hi offs, len)) (h : x.toInt < lo ∨ hi < x.toInt) (ht : (pc : Int) + dflt = (tgt : Int)) (k : fs_PW X tgt L st σ μ) : fs_PW X pc L (.int x :: st) σ μ := by
  obtain ⟨p, l, e, R, s, m, args, below, meth, c, cells, slots, Q, dC, dI, α, cI, cII, A⟩ := X
  intro H locs ls hl hP hS
  exact lv_tableOut hX.1 hX.2.1 hd h ht (k H locs ls hl hP hS)
theorem s_tabIn {cc : ByteArray} {own : String} {nL : Nat} {rm : Room} {X : fsC} (hX : fs_ok cc own nL rm X) {pc : Nat} {L : List (Option Value)} {st : List Value} {σ : fsS} {μ : fsL} {dflt lo hi : Int} {offs : Array Int} {len : Nat} {x : Int32} {off : Int} (tgt : Nat) (hd : decode cc pc = .ok (.tableswitch dflt lo hi offs, len)) (h1 : ¬ x.toInt < lo) (h2 : ¬ hi < x.toInt) (ho : offs[(x.toInt - lo).toNat]? = some off) (ht : (pc : Int) + off = (tgt : Int)) (k : fs_PW X tgt L st σ μ) : fs_PW X pc L (.int x :: st) σ μ := by
  obtain ⟨p, l, e, R, s, m, args, below, meth, c, cells, slots, Q, dC, dI, α, cI, cII, A⟩ := X
  intro H locs ls hl hP hS
  exact lv_tableIn hX.1 hX.2.1 hd h1 h2 ho ht (k H locs ls hl hP hS)
theorem s_look {cc : ByteArray} {own : String} {nL : Nat} {rm : Room} {X : fsC} (hX : fs_ok cc own nL rm X) {pc : Nat} {L : List (Option Value)} {st : List Value} {σ : fsS} {μ : fsL} {dflt : Int} {ps : Array (Int × Int)} {len : Nat} {x : Int32} {off : Int} (tgt : Nat) (hd : decode cc pc = .ok (.lookupswitch dflt ps, len)) (hp : (ps.toList.zip (ps.toList.drop 1)).all (fun (a, next) => a.1 < next.1) = true) (ho : Op.lookupswitch.offset ps.toList dflt x.toInt = off) (ht : (pc : Int) + off = (tgt : Int)) (k : fs_PW X tgt L st σ μ) : fs_PW X pc L (.int x :: st) σ μ := by
  obtain ⟨p, l, e, R, s, m, args, below, meth, c, cells, slots, Q, dC, dI, α, cI, cII, A⟩ := X
  intro H locs ls hl hP hS
  exact lv_lookup hX.1 hX.2.1 hd hp ho ht (k H locs ls hl hP hS)
theorem s_iret {cc : ByteArray} {own : String} {nL : Nat} {rm : Room} {X : fsC} (hX : fs_ok cc own nL rm X) {pc : Nat} {L : List (Option Value)} {σ : fsS} {μ : fsL} {v : Int32} (hR : fs_ret (some .int) (some (.int v)) σ μ X) (hd : decode cc pc = .ok (.ireturn, 1)) : fs_PW X pc L ([.int v]) σ μ := by
  obtain ⟨p, l, e, R, s, m, args, below, meth, c, cells, slots, Q, dC, dI, α, cI, cII, A⟩ := X
  intro H locs ls hl hP hS
  obtain ⟨h1, h2, rfl, rfl, rfl, rfl⟩ := hR
  exact W.iret (Qc := fs_Q dC dI α cI cII (some (.int v)) σ μ) hX.1 hX.2.1 h1 (fun t ht hW => ⟨⟨rfl, by rw [ht]; exact hP⟩, hS.F ht⟩) hS.2.2 hd h2
theorem s_lret {cc : ByteArray} {own : String} {nL : Nat} {rm : Room} {X : fsC} (hX : fs_ok cc own nL rm X) {pc : Nat} {L : List (Option Value)} {σ : fsS} {μ : fsL} {v : Int64} (hR : fs_ret (some .long) (some (.long v)) σ μ X) (hd : decode cc pc = .ok (.lreturn, 1)) : fs_PW X pc L ([.long v]) σ μ := by
  obtain ⟨p, l, e, R, s, m, args, below, meth, c, cells, slots, Q, dC, dI, α, cI, cII, A⟩ := X
  intro H locs ls hl hP hS
  obtain ⟨h1, h2, rfl, rfl, rfl, rfl⟩ := hR
  exact W.lret (Qc := fs_Q dC dI α cI cII (some (.long v)) σ μ) hX.1 hX.2.1 h1 (fun t ht hW => ⟨⟨rfl, by rw [ht]; exact hP⟩, hS.F ht⟩) hS.2.2 hd h2
theorem s_zret {cc : ByteArray} {own : String} {nL : Nat} {rm : Room} {X : fsC} (hX : fs_ok cc own nL rm X) {pc : Nat} {L : List (Option Value)} {σ : fsS} {μ : fsL} {v : Int32} (hn : v = 0 ∨ v = 1) (hR : fs_ret (some .boolean) (some (.int v)) σ μ X) (hd : decode cc pc = .ok (.ireturn, 1)) : fs_PW X pc L ([.int v]) σ μ := by
  obtain ⟨p, l, e, R, s, m, args, below, meth, c, cells, slots, Q, dC, dI, α, cI, cII, A⟩ := X
  intro H locs ls hl hP hS
  obtain ⟨h1, h2, rfl, rfl, rfl, rfl⟩ := hR
  exact W.zret (Qc := fs_Q dC dI α cI cII (some (.int v)) σ μ) hX.1 hX.2.1 h1 (by rcases hn with rfl | rfl <;> rfl) (fun t ht hW => ⟨⟨rfl, by rw [ht]; exact hP⟩, hS.F ht⟩) hS.2.2 hd h2
theorem s_vret {cc : ByteArray} {own : String} {nL : Nat} {rm : Room} {X : fsC} (hX : fs_ok cc own nL rm X) {pc : Nat} {L : List (Option Value)} {σ : fsS} {μ : fsL} (hR : fs_ret none (none) σ μ X) (hd : decode cc pc = .ok (.return_, 1)) : fs_PW X pc L ([]) σ μ := by
  obtain ⟨p, l, e, R, s, m, args, below, meth, c, cells, slots, Q, dC, dI, α, cI, cII, A⟩ := X
  intro H locs ls hl hP hS
  obtain ⟨h1, h2, rfl, rfl, rfl, rfl⟩ := hR
  exact W.vret (Qc := fs_Q dC dI α cI cII none σ μ) hX.1 hX.2.1 h1 (fun t ht hW => ⟨⟨rfl, by rw [ht]; exact hP⟩, hS.F ht⟩) hS.2.2 hd h2
theorem fs_good : fs_ws.all goodWord = true := List.all_eq_true.mpr (fun _ h => (List.mem_filter.mp h).2)
/-- what a call of y wants of the tables -/
def fs_yV (y : MethodName) (code : ByteArray) (maxL : Nat) (ret : Option FieldType) (n : Nat) : Prop := Cond.instanceMethod y ∈ fs_ws ∧ Cond.selects y.cls y y ∈ fs_ws ∧ Cond.initialized y.cls ∈ fs_ws ∧ Cond.code y code maxL ret ∈ fs_ws ∧ y.cls ≠ "java/lang/invoke/MethodHandle" ∧ y.cls ≠ "java/lang/invoke/VarHandle" ∧ (parseMethodDescriptor y.desc).map (fun d => d.parameters.length) = some n
def fs_yS (y : MethodName) (code : ByteArray) (maxL : Nat) (ret : Option FieldType) (n : Nat) : Prop := Cond.static y ∈ fs_ws ∧ Cond.initialized y.cls ∈ fs_ws ∧ Cond.code y code maxL ret ∈ fs_ws ∧ y.cls ≠ "java/lang/invoke/MethodHandle" ∧ y.cls ≠ "java/lang/invoke/VarHandle" ∧ (parseMethodDescriptor y.desc).map (fun d => d.parameters.length) = some n
theorem fs_gi {ws : List Cond} (h : ∀ w ∈ ws, w ∈ fs_ws) : GoodIn fs_ws ws := fun w hw => ⟨h w hw, good_of_word (List.all_eq_true.mp fs_good w (h w hw))⟩
theorem fs_blind {α : Nat → Nat} {as : List Value} {dC : Nat → ClassId} {dI : Nat → Nat → Nat} {cI cII : ClassId} {σ : fsS} {μ : fsL} : FrameBlind (va_Pc (as.map (fs_v α)) (fun U => va_P (dC, dI) vwCl (fs_w cI cII α σ μ) U.heap ∧ va_K (dC, dI) vwCl (fs_ty cI cII) U)) :=
  fun a U g mk q => by
    obtain ⟨q0, qP, qK⟩ := q
    exact ⟨q0, qP, va_K.moved (u := U) (U := U.calling g mk a) (Vm.Alike.refl U.vm) qK⟩
set_option maxHeartbeats 4000000 in
/-- behind a run of a call -/
theorem fs_goes {p : Program} {l : Launch} {e : Env} {R : Room} {s : State} {m : MethodId} {args : Array Value} {below : List Frame} {meth : Method} {c : Code} {H : Heap} {locs : List Loc} {cells slots : Nat} {Q : State → Prop} {dC : Nat → ClassId} {dI : Nat → Nat → Nat} {α : Nat → Nat} {cI cII : ClassId} {A : Nat → Prop} {r : Option Value} {σ : fsS} {μ : fsL} {pc : Nat} {ls : Array Slot} {st0 rest : List Value} {a : Array Value}
    (hr : va_Run p l e R s m args below meth c H locs cells slots 0 0 (F0 m pc ls st0) (rest.map (fs_v α)) (fs_Q dC dI α cI cII r σ μ a) (fs_A α)) (hS : va_S A s.heap H locs) (hA : ∀ i, i < 68 → A (α i))
    (kk : ∀ (H1 : Heap) (locs1 : List Loc), va_P (dC, dI) vwCl (fs_w cI cII α σ μ) H1 → va_S A s.heap H1 locs1 → W p l e R s m args below meth c H1 locs1 cells slots Q (F0 m (pc + 3) ls ((r.toList ++ rest).map (fs_v α)))) : W p l e R s m args below meth c H locs cells slots Q (F0 m pc ls st0) := by
  have hAA : ∀ q, fs_A α q → A q := fun q ⟨k, hk, e⟩ => by rw [e]; exact hA k hk
  intro T hT X
  obtain ⟨v, st₀, t, T', L, h0, X', hL, e1, e2, ⟨⟨hv, hp⟩, hz, hk⟩, st⟩ := hr T hT X
  cases hv
  rw [h0] at hz hk
  obtain ⟨t2, a1, b1⟩ := kk T'.heap (locs ++ L) (by rw [e1]; exact hp)
    ⟨Nat.le_trans hS.1 (by rw [e1]; exact hz), fun q h1 h2 => by rw [e1, hk q (Nat.lt_of_lt_of_le h1 hS.1) (fun z => h2 (hAA q z))]; exact hS.2.1 q h1 h2, fun q hq => by
      rcases List.mem_append.mp hq with h | h
      · exact hS.2.2 q h
      · exact hAA _ (hL q h)⟩ T' rfl X'
  refine ⟨t2, st t2 ?_, b1⟩
  have e3 : (r.toList ++ rest).map (fs_v α) = (r.map (fs_v α)).toList ++ rest.map (fs_v α) := by cases r <;> simp
  rw [e3] at a1
  exact a1

set_option maxHeartbeats 4000000 in
theorem s_callV {cc : ByteArray} {own : String} {nL : Nat} {rm : Room} {X : fsC} (hX : fs_ok cc own nL rm X) {pc : Nat} {L : List (Option Value)} {st : List Value} {σ : fsS} {μ : fsL} {y : MethodName} {code : ByteArray} {maxL index : Nat} {ret : Option FieldType} {rmc : Room} {k ci : Nat} {as rest : List Value} {r : Option Value} {σ' : fsS} {μ' : fsL} {T : u_T} {N : Nat} {fs : List (Nat ⊕ Bool)}
    (hd : decode cc pc = .ok (.invokevirtual index, 3)) (hlink : Cond.methodLink own index y ∈ fs_ws) (hy : fs_yV y code maxL ret as.length) (hM : fs_Met y code maxL ret rmc (.ref k :: as) σ μ r σ' μ') (ht : fs_tp[k]? = some (.inl (ci, fs))) (hc : vwCl[ci]? = some (y.cls, T, N)) (hcells : rmc.cells = 0 ∧ rmc.slots = 0) (hR : rmc.frames + 1 ≤ rm.frames ∧ 8 + (maxL + 11) + rmc.locals ≤ rm.locals)
    (hst : st = as.reverse ++ .ref k :: rest) (hL : L.length = nL) (hW : (rest.map fun v => v.category).sum ≤ 8)
    (kk : fs_PW X (pc + 3) L (r.toList ++ rest) σ' μ') : fs_PW X pc L st σ μ := by
  obtain ⟨p, l, e, R, s, m, args, below, meth, c, cells, slots, Q, dC, dI, α, cI, cII, A⟩ := X
  intro H locs ls hl hP hS
  obtain ⟨hx, hb, hml, hown, hts, hK, hinj, hA, rfl, hce, hsl⟩ := hX
  obtain ⟨y1, y2, y3, y4, y5, y6, y7⟩ := hy
  have hgi : GoodIn fs_ws (wsV own index y.cls y (.code y code maxL ret :: fs_ws)) := fs_gi (fun w hw => by
    simp only [wsV, List.cons_append, List.nil_append, List.mem_cons] at hw
    rcases hw with rfl | rfl | rfl | rfl | rfl | hw
    · exact hlink
    · exact y1
    · exact y2
    · exact y3
    · exact y4
    · exact hw)
  refine fs_goes (va_runV (nL := nL) (As := as.map (fs_v α)) (rest := rest.map (fs_v α)) (b := α k) ⟨hx, hb, hml, hown, hts⟩ (hM l dC dI α cI cII hinj) (cwV as.length hts hgi rfl hcells.1 hcells.2 ⟨rfl, y5, y6, y7⟩ hR) ⟨fs_blind, va_recv hK hP hc (fs_w_get ht), fun U hU hW => ⟨rfl, by rw [hU]; exact hP, va_K.moved hW.alike hK⟩⟩ rfl (by simp) (by rw [hl.1, hL]) (by rw [hst]; simp [fs_v]) ?_ hd ⟨hce, hsl⟩) hS hA (fun H1 locs1 hP1 hS1 => kk H1 locs1 ls hl hP1 hS1)
  exact lv_room (by rw [fs_cat_map]; exact hW)
set_option maxHeartbeats 4000000 in
theorem s_callS {cc : ByteArray} {own : String} {nL : Nat} {rm : Room} {X : fsC} (hX : fs_ok cc own nL rm X) {pc : Nat} {L : List (Option Value)} {st : List Value} {σ : fsS} {μ : fsL} {y : MethodName} {code : ByteArray} {maxL index : Nat} {ret : Option FieldType} {rmc : Room} {as rest : List Value} {r : Option Value} {σ' : fsS} {μ' : fsL}
    (hd : decode cc pc = .ok (.invokestatic index, 3)) (hlink : Cond.methodLink own index y ∈ fs_ws) (hy : fs_yS y code maxL ret as.length) (hM : fs_Met y code maxL ret rmc as σ μ r σ' μ') (hcells : rmc.cells = 0 ∧ rmc.slots = 0) (hR : rmc.frames + 1 ≤ rm.frames ∧ 8 + (maxL + 11) + rmc.locals ≤ rm.locals)
    (hst : st = as.reverse ++ rest) (hL : L.length = nL) (hW : (rest.map fun v => v.category).sum ≤ 8)
    (kk : fs_PW X (pc + 3) L (r.toList ++ rest) σ' μ') : fs_PW X pc L st σ μ := by
  obtain ⟨p, l, e, R, s, m, args, below, meth, c, cells, slots, Q, dC, dI, α, cI, cII, A⟩ := X
  intro H locs ls hl hP hS
  obtain ⟨hx, hb, hml, hown, hts, hK, hinj, hA, rfl, hce, hsl⟩ := hX
  obtain ⟨y1, y3, y4, y5, y6, y7⟩ := hy
  have hgi : GoodIn fs_ws (va_wsS own index y (.code y code maxL ret :: fs_ws)) := fs_gi (fun w hw => by
    simp only [va_wsS, List.cons_append, List.nil_append, List.mem_cons] at hw
    rcases hw with rfl | rfl | rfl | rfl | hw
    · exact hlink
    · exact y1
    · exact y3
    · exact y4
    · exact hw)
  refine fs_goes (va_runS (nL := nL) (As := as.map (fs_v α)) (rest := rest.map (fs_v α)) ⟨hx, hb, hml, hown, hts⟩ (hM l dC dI α cI cII hinj) (va_cwS as.length hts hgi rfl hcells.1 hcells.2 ⟨y5, y6, y7⟩ hR) ⟨fs_blind, fun U hU hW => ⟨rfl, by rw [hU]; exact hP, va_K.moved hW.alike hK⟩⟩ rfl (by simp) (by rw [hl.1, hL]) (by rw [hst]; simp) ?_ hd ⟨hce, hsl⟩) hS hA (fun H1 locs1 hP1 hS1 => kk H1 locs1 ls hl hP1 hS1)
  exact lv_room (by rw [fs_cat_map]; exact hW)
end
section
theorem fs_me0 {w : Cond} (i : Nat) (h : (k2_sels lw_privs)[i]? = some w) (g : goodWord w = true) : w ∈ fs_ws := List.mem_filter.mpr ⟨List.mem_append_left _ (List.mem_of_getElem? h), g⟩
theorem fs_me1 {w : Cond} (i : Nat) (h : tables_1_1[i]? = some w) (g : goodWord w = true) : w ∈ fs_ws := List.mem_filter.mpr ⟨List.mem_append_right _ (List.mem_append_left _ (List.mem_of_getElem? h)), g⟩
theorem fs_me2 {w : Cond} (i : Nat) (h : tables_1_2[i]? = some w) (g : goodWord w = true) : w ∈ fs_ws := List.mem_filter.mpr ⟨List.mem_append_right _ (List.mem_append_right _ (List.mem_append_left _ (List.mem_of_getElem? h))), g⟩
theorem fs_me3 {w : Cond} (i : Nat) (h : tables_1_3[i]? = some w) (g : goodWord w = true) : w ∈ fs_ws := List.mem_filter.mpr ⟨List.mem_append_right _ (List.mem_append_right _ (List.mem_append_right _ (List.mem_append_left _ (List.mem_of_getElem? h)))), g⟩
theorem fs_me4 {w : Cond} (i : Nat) (h : tables_1_4[i]? = some w) (g : goodWord w = true) : w ∈ fs_ws := List.mem_filter.mpr ⟨List.mem_append_right _ (List.mem_append_right _ (List.mem_append_right _ (List.mem_append_right _ (List.mem_append_left _ (List.mem_of_getElem? h))))), g⟩
theorem fs_me5 {w : Cond} (i : Nat) (h : tables_1_5[i]? = some w) (g : goodWord w = true) : w ∈ fs_ws := List.mem_filter.mpr ⟨List.mem_append_right _ (List.mem_append_right _ (List.mem_append_right _ (List.mem_append_right _ (List.mem_append_right _ (List.mem_of_getElem? h))))), g⟩
theorem fs_keep {X : fsC} {pc : Nat} {L : List (Option Value)} {st : List Value} {σ : fsS} {μ : fsL} (L' : List (Option Value)) (hn : L'.length = L.length) (hs : ∀ (i : Nat) (v : Value), L'[i]? = some (some v) → L[i]? = some (some v)) (k : fs_PW X pc L' st σ μ) : fs_PW X pc L st σ μ := by
  obtain ⟨p, l, e, R, s, m, args, below, meth, c, cells, slots, Q, dC, dI, α, cI, cII, A⟩ := X
  intro H locs ls hl hP hS
  refine k H locs ls ?_ hP hS
  rw [hn]
  refine ⟨hl.1, hl.2.1, fun q hq => hl.2.2 q ?_⟩
  obtain ⟨w, hw, hq2⟩ := fs_lv_of hq
  have := fs_lv_mem (α := α) (hs _ _ hw)
  rw [← hq2] at this
  exact this
def fs_mk : List Bool → List (Option Value) → List (Option Value)
  | true :: b, v :: l => v :: fs_mk b l
  | false :: b, _ :: l => none :: fs_mk b l
  | _, l => l
theorem fs_mk_len : ∀ (b : List Bool) (l : List (Option Value)), (fs_mk b l).length = l.length
  | [], _ => rfl
  | true :: _, [] => rfl
  | false :: _, [] => rfl
  | true :: b, _ :: l => by simp [fs_mk, fs_mk_len b l]
  | false :: b, _ :: l => by simp [fs_mk, fs_mk_len b l]
theorem fs_mk_get : ∀ (b : List Bool) (l : List (Option Value)) (i : Nat) (v : Value), (fs_mk b l)[i]? = some (some v) → l[i]? = some (some v)
  | [], _, _, _, h => h
  | true :: _, [], _, _, h => h
  | false :: _, [], _, _, h => h
  | true :: b, x :: l, 0, v, h => h
  | true :: b, x :: l, i + 1, v, h => fs_mk_get b l i v h
  | false :: b, x :: l, 0, v, h => by cases h
  | false :: b, x :: l, i + 1, v, h => fs_mk_get b l i v h
/-- forget the locals that nobody reads any more -/
theorem fs_ma {X : fsC} {pc : Nat} {L : List (Option Value)} {st : List Value} {σ : fsS} {μ : fsL} (b : List Bool) (k : fs_PW X pc (fs_mk b L) st σ μ) : fs_PW X pc L st σ μ := fs_keep _ (fs_mk_len b L) (fs_mk_get b L) k
theorem fs_bind {τ υ : Type} {o : Option τ} {f : τ → Option υ} {b : υ} (h : o.bind f = some b) : ∃ a, o = some a ∧ f a = some b := by
  cases o with
  | none => cases h
  | some a => exact ⟨a, rfl, h⟩
def fs_g {τ : Type} (p : Prop) [Decidable p] (x : Option τ) : Option τ := if p then x else none
theorem fs_gd {τ : Type} {p : Prop} [Decidable p] {x : Option τ} {b : τ} (h : fs_g p x = some b) : p ∧ x = some b := by
  unfold fs_g at h
  by_cases hp : p
  · rw [if_pos hp] at h; exact ⟨hp, h⟩
  · rw [if_neg hp] at h; cases h
theorem fs_gp {τ : Type} {p : Prop} [Decidable p] {x : Option τ} (h : p) : fs_g p x = x := if_pos h
abbrev fs_in (i : Int32) (n : Nat) : Prop := ¬ (i < 0 ∨ n ≤ i.toNatClampNeg)
def fs_fu : Nat := 100000
theorem fs_ne {x k : Int32} {z : Int} (h : ¬ x = k) (hk : k.toInt = z) : ¬ x.toInt = z := fun e => h (Int32.toInt_inj.mp (e.trans hk.symm))
theorem fs_cmp_lt {x y : Int64} : lg_cmp x y < 0 ↔ x < y := by
  unfold lg_cmp
  by_cases h1 : y < x
  · rw [if_pos h1]
    exact ⟨fun h => absurd h (by decide), fun h => absurd h (Int64.lt_asymm h1)⟩
  · rw [if_neg h1]
    by_cases h2 : x = y
    · rw [if_pos h2]
      exact ⟨fun h => absurd h (by decide), fun h => absurd h (by rw [h2]; exact Int64.lt_irrefl)⟩
    · rw [if_neg h2]
      exact ⟨fun _ => Int64.lt_iff_toInt_lt.mpr (by
        have a1 : ¬ y.toInt < x.toInt := fun h => h1 (Int64.lt_iff_toInt_lt.mpr h)
        have a2 : ¬ x.toInt = y.toInt := fun h => h2 (Int64.toInt_inj.mp h)
        omega), fun _ => by decide⟩
theorem fs_cmp_gt {x y : Int64} : 0 < lg_cmp x y ↔ y < x := by
  unfold lg_cmp
  by_cases h1 : y < x
  · rw [if_pos h1]
    exact ⟨fun _ => h1, fun _ => by decide⟩
  · rw [if_neg h1]
    by_cases h2 : x = y
    · rw [if_pos h2]
      exact ⟨fun h => absurd h (by decide), fun h => absurd h h1⟩
    · rw [if_neg h2]
      exact ⟨fun h => absurd h (by decide), fun h => absurd h h1⟩
theorem fs_cmp_eq {x y : Int64} : lg_cmp x y = 0 ↔ x = y := by
  unfold lg_cmp
  by_cases h1 : y < x
  · rw [if_pos h1]
    exact ⟨fun h => absurd h (by decide), fun h => absurd h1 (by rw [h]; exact Int64.lt_irrefl)⟩
  · rw [if_neg h1]
    by_cases h2 : x = y
    · rw [if_pos h2]
      exact ⟨fun _ => h2, fun _ => rfl⟩
    · rw [if_neg h2]
      exact ⟨fun h => absurd h (by decide), fun h => absurd h h2⟩
/-- a class' object: KIN 4, 5, 6; a Shelf 1, 2 -/
def fs_K (o : Nat) : Prop := o = 4 ∨ o = 5 ∨ o = 6
def fs_H (o : Nat) : Prop := o = 1 ∨ o = 2
def fs_is (k ci : Nat) : Prop := ∃ fs, fs_tp[k]? = some (.inl (ci, fs))
theorem fs_K_is {o : Nat} (h : fs_K o) : fs_is o 1 := by rcases h with rfl | rfl | rfl <;> exact ⟨_, rfl⟩
theorem fs_H_is {o : Nat} (h : fs_H o) : fs_is o 2 := by rcases h with rfl | rfl <;> exact ⟨_, rfl⟩
theorem fs_K4 : fs_K 4 := Or.inl rfl
theorem fs_K5 : fs_K 5 := Or.inr (Or.inl rfl)
theorem fs_K6 : fs_K 6 := Or.inr (Or.inr rfl)
theorem fs_H1 : fs_H 1 := Or.inl rfl
theorem fs_H2 : fs_H 2 := Or.inr rfl

theorem fs_kd0 {o : Nat} (h : fs_K o) : fs_fd o 1 0 = some (.inr false) := by rcases h with rfl | rfl | rfl <;> rfl
theorem fs_kd8 {o : Nat} (h : fs_K o) : fs_fd o 1 8 = some (.inr false) := by rcases h with rfl | rfl | rfl <;> rfl
theorem fs_kd9 {o : Nat} (h : fs_K o) : fs_fd o 1 9 = some (.inr false) := by rcases h with rfl | rfl | rfl <;> rfl
theorem fs_kd1 {o : Nat} (h : fs_K o) : fs_fd o 1 1 = some (.inl (7 * o - 14 + 0)) := by rcases h with rfl | rfl | rfl <;> rfl
theorem fs_kd2 {o : Nat} (h : fs_K o) : fs_fd o 1 2 = some (.inl (7 * o - 14 + 1)) := by rcases h with rfl | rfl | rfl <;> rfl
theorem fs_kd3 {o : Nat} (h : fs_K o) : fs_fd o 1 3 = some (.inl (7 * o - 14 + 2)) := by rcases h with rfl | rfl | rfl <;> rfl
theorem fs_kd4 {o : Nat} (h : fs_K o) : fs_fd o 1 4 = some (.inl (7 * o - 14 + 3)) := by rcases h with rfl | rfl | rfl <;> rfl
theorem fs_kd5 {o : Nat} (h : fs_K o) : fs_fd o 1 5 = some (.inl (7 * o - 14 + 4)) := by rcases h with rfl | rfl | rfl <;> rfl
theorem fs_kd6 {o : Nat} (h : fs_K o) : fs_fd o 1 6 = some (.inl (7 * o - 14 + 5)) := by rcases h with rfl | rfl | rfl <;> rfl
theorem fs_kd7 {o : Nat} (h : fs_K o) : fs_fd o 1 7 = some (.inl (7 * o - 14 + 6)) := by rcases h with rfl | rfl | rfl <;> rfl
theorem fs_hd0 {o : Nat} (h : fs_H o) : fs_fd o 2 0 = some (.inl (34 + o)) := by rcases h with rfl | rfl <;> rfl
theorem fs_hd1 {o : Nat} (h : fs_H o) : fs_fd o 2 1 = some (.inl (9 + o)) := by rcases h with rfl | rfl <;> rfl
theorem fs_hd2 {o : Nat} (h : fs_H o) : fs_fd o 2 2 = some (.inr false) := by rcases h with rfl | rfl <;> rfl
theorem fs_hl {o : Nat} (h : fs_H o) : ¬ fs_len (9 + o) = 0 := by rcases h with rfl | rfl <;> decide
abbrev fs_cp (a b : Nat) (sp dp n : Int32) : Prop := ¬ sp < 0 ∧ ¬ dp < 0 ∧ ¬ n < 0 ∧ ¬ fs_len a = 0 ∧ ¬ fs_len b = 0 ∧ sp.toNatClampNeg + n.toNatClampNeg ≤ fs_len a ∧ dp.toNatClampNeg + n.toNatClampNeg ≤ fs_len b
def fs_cy (σ : fsS) (a b : Nat) (sp dp n : Int32) : fsS := fs_s σ b (va_cpy (σ a) (σ b) sp.toNatClampNeg dp.toNatClampNeg n.toNatClampNeg)
theorem s_ac {cc : ByteArray} {own : String} {nL : Nat} {rm : Room} {X : fsC} (hX : fs_ok cc own nL rm X) {pc : Nat} {L : List (Option Value)} {st : List Value} {σ : fsS} {μ : fsL} {index a b : Nat} {sp dp n : Int32} (hd : decode cc pc = .ok (.invokestatic index, 3)) (hw : fs_ac own index) (hg : fs_cp a b sp dp n) (hL : L.length = nL) (hf : 1 ≤ rm.frames) (hlo : (st.map fun v => v.category).sum + (nativeFrameWords "java/lang/System" "arraycopy" 5 + 11) ≤ rm.locals) (k : fs_PW X (pc + 3) L st (fs_cy σ a b sp dp n) μ) : fs_PW X pc L (.int n :: .int dp :: .ref b :: .int sp :: .ref a :: st) σ μ :=
  s_acopy hX hd hw hg.1 hg.2.1 hg.2.2.1 hg.2.2.2.1 hg.2.2.2.2.1 hg.2.2.2.2.2.1 hg.2.2.2.2.2.2 hL hf hlo k
theorem fs_ik0 {o : Nat} {i : Int32} (ho : fs_K o) (h : fs_in i 6) : vp_in i (fs_len (7 * o - 14 + 0)) := by rcases ho with rfl | rfl | rfl <;> exact h
theorem fs_ik1 {o : Nat} {i : Int32} (ho : fs_K o) (h : fs_in i 6) : vp_in i (fs_len (7 * o - 14 + 1)) := by rcases ho with rfl | rfl | rfl <;> exact h
theorem fs_ik2 {o : Nat} {i : Int32} (ho : fs_K o) (h : fs_in i 6) : vp_in i (fs_len (7 * o - 14 + 2)) := by rcases ho with rfl | rfl | rfl <;> exact h
theorem fs_ik3 {o : Nat} {i : Int32} (ho : fs_K o) (h : fs_in i 6) : vp_in i (fs_len (7 * o - 14 + 3)) := by rcases ho with rfl | rfl | rfl <;> exact h
theorem fs_ik4 {o : Nat} {i : Int32} (ho : fs_K o) (h : fs_in i 6) : vp_in i (fs_len (7 * o - 14 + 4)) := by rcases ho with rfl | rfl | rfl <;> exact h
theorem fs_ik5 {o : Nat} {i : Int32} (ho : fs_K o) (h : fs_in i 6) : vp_in i (fs_len (7 * o - 14 + 5)) := by rcases ho with rfl | rfl | rfl <;> exact h
theorem fs_ik6 {o : Nat} {i : Int32} (ho : fs_K o) (h : fs_in i 6) : vp_in i (fs_len (7 * o - 14 + 6)) := by rcases ho with rfl | rfl | rfl <;> exact h
theorem s_geti {cc : ByteArray} {own : String} {nL : Nat} {rm : Room} {X : fsC} (hX : fs_ok cc own nL rm X) {pc : Nat} {L : List (Option Value)} {st : List Value} {σ : fsS} {μ : fsL} {o index ci j : Nat} (hd : decode cc pc = .ok (.getfield index, 3)) (hf : fs_fl own index ci j) (hv : fs_fd o ci j = some (.inr false)) (k : fs_PW X (pc + 3) L (.int (σ o j) :: st) σ μ) : fs_PW X pc L (.ref o :: st) σ μ := s_get hX hd hf hv k
theorem s_getl {cc : ByteArray} {own : String} {nL : Nat} {rm : Room} {X : fsC} (hX : fs_ok cc own nL rm X) {pc : Nat} {L : List (Option Value)} {st : List Value} {σ : fsS} {μ : fsL} {o index ci j : Nat} (hd : decode cc pc = .ok (.getfield index, 3)) (hf : fs_fl own index ci j) (hv : fs_fd o ci j = some (.inr true)) (k : fs_PW X (pc + 3) L (.long (μ o j) :: st) σ μ) : fs_PW X pc L (.ref o :: st) σ μ := s_get hX hd hf hv k
theorem s_getr {cc : ByteArray} {own : String} {nL : Nat} {rm : Room} {X : fsC} (hX : fs_ok cc own nL rm X) {pc : Nat} {L : List (Option Value)} {st : List Value} {σ : fsS} {μ : fsL} {o index ci j r : Nat} (hd : decode cc pc = .ok (.getfield index, 3)) (hf : fs_fl own index ci j) (hv : fs_fd o ci j = some (.inl r)) (k : fs_PW X (pc + 3) L (.ref r :: st) σ μ) : fs_PW X pc L (.ref o :: st) σ μ := s_get hX hd hf hv k
theorem s_tabK {cc : ByteArray} {own : String} {nL : Nat} {rm : Room} {X : fsC} (hX : fs_ok cc own nL rm X) {pc : Nat} {L : List (Option Value)} {st : List Value} {σ : fsS} {μ : fsL} {dflt lo hi : Int} {offs : Array Int} {len : Nat} {x : Int32} {off : Int} (tgt : Nat) (kx : Int32) (hx : x = kx) (hd : decode cc pc = .ok (.tableswitch dflt lo hi offs, len)) (h1 : ¬ kx.toInt < lo) (h2 : ¬ hi < kx.toInt) (ho : offs[(kx.toInt - lo).toNat]? = some off) (ht : (pc : Int) + off = (tgt : Int)) (k : fs_PW X tgt L st σ μ) : fs_PW X pc L (.int x :: st) σ μ := by
  rw [hx]
  exact s_tabIn hX tgt hd h1 h2 ho ht k
theorem s_lookK {cc : ByteArray} {own : String} {nL : Nat} {rm : Room} {X : fsC} (hX : fs_ok cc own nL rm X) {pc : Nat} {L : List (Option Value)} {st : List Value} {σ : fsS} {μ : fsL} {dflt : Int} {ps : Array (Int × Int)} {len : Nat} {x : Int32} {off : Int} (tgt : Nat) (kx : Int32) (hx : x = kx) (hd : decode cc pc = .ok (.lookupswitch dflt ps, len)) (hp : (ps.toList.zip (ps.toList.drop 1)).all (fun (a, next) => a.1 < next.1) = true) (ho : Op.lookupswitch.offset ps.toList dflt kx.toInt = off) (ht : (pc : Int) + off = (tgt : Int)) (k : fs_PW X tgt L st σ μ) : fs_PW X pc L (.int x :: st) σ μ := by
  rw [hx]
  exact s_look hX tgt hd hp ho ht k
theorem s_cV {cc : ByteArray} {own : String} {nL : Nat} {rm : Room} {X : fsC} (hX : fs_ok cc own nL rm X) {pc : Nat} {L : List (Option Value)} {st : List Value} {σ : fsS} {μ : fsL} {y : MethodName} {code : ByteArray} {maxL index : Nat} {ret : Option FieldType} {rmc : Room} {o ci : Nat} (as : List Value) {rest : List Value} {r : Option Value} {σ' : fsS} {μ' : fsL}
    (hd : decode cc pc = .ok (.invokevirtual index, 3)) (hlink : Cond.methodLink own index y ∈ fs_ws) (hy : fs_yV y code maxL ret as.length) (hM : fs_Met y code maxL ret rmc (.ref o :: as) σ μ r σ' μ') (ht : fs_is o ci) (hc : ∃ T N, vwCl[ci]? = some (y.cls, T, N)) (hcells : rmc.cells = 0 ∧ rmc.slots = 0) (hR : rmc.frames + 1 ≤ rm.frames ∧ 8 + (maxL + 11) + rmc.locals ≤ rm.locals)
    (hst : st = as.reverse ++ .ref o :: rest) (hL : L.length = nL) (hW : (rest.map fun v => v.category).sum ≤ 8)
    (kk : fs_PW X (pc + 3) L (r.toList ++ rest) σ' μ') : fs_PW X pc L st σ μ := by
  obtain ⟨fs, ht⟩ := ht
  obtain ⟨T, N, hc⟩ := hc
  exact s_callV hX hd hlink hy hM ht hc hcells hR hst hL hW kk
theorem fs_c0 : ∃ T N, vwCl[0]? = some (RX0, T, N) := ⟨_, _, rfl⟩
theorem fs_c1 : ∃ T N, vwCl[1]? = some (RX1, T, N) := ⟨_, _, rfl⟩
theorem fs_c2 : ∃ T N, vwCl[2]? = some (RX2, T, N) := ⟨_, _, rfl⟩
theorem fs_c3 : ∃ T N, vwCl[3]? = some (RX3, T, N) := ⟨_, _, rfl⟩
theorem fs_c4 : ∃ T N, vwCl[4]? = some (RX4, T, N) := ⟨_, _, rfl⟩
theorem infX0 : ∀ w ∈ wsX00, w ∈ fs_ws := fun w h => List.mem_filter.mpr ⟨inX0 w h, List.all_eq_true.mp (show wsX00.all goodWord = true by decide +kernel) w h⟩
theorem infX1 : ∀ w ∈ wsX10, w ∈ fs_ws := fun w h => List.mem_filter.mpr ⟨inX1 w h, List.all_eq_true.mp (show wsX10.all goodWord = true by decide +kernel) w h⟩
theorem infX2 : ∀ w ∈ wsX20, w ∈ fs_ws := fun w h => List.mem_filter.mpr ⟨inX2 w h, List.all_eq_true.mp (show wsX20.all goodWord = true by decide +kernel) w h⟩
theorem infX3 : ∀ w ∈ wsX30, w ∈ fs_ws := fun w h => List.mem_filter.mpr ⟨inX3 w h, List.all_eq_true.mp (show wsX30.all goodWord = true by decide +kernel) w h⟩
theorem infX4 : ∀ w ∈ wsX40, w ∈ fs_ws := fun w h => List.mem_filter.mpr ⟨inX4 w h, List.all_eq_true.mp (show wsX40.all goodWord = true by decide +kernel) w h⟩
theorem f_X0_12 : fs_fl RX0 12 0 0 := ⟨RX0, TX0, 7, rfl, infX0, by decide, (fs_me1 102 rfl rfl), rfl⟩
theorem f_X0_18 : fs_fl RX0 18 0 1 := ⟨RX0, TX0, 7, rfl, infX0, by decide, (fs_me1 103 rfl rfl), rfl⟩
theorem f_X0_21 : fs_fl RX0 21 0 2 := ⟨RX0, TX0, 7, rfl, infX0, by decide, (fs_me1 105 rfl rfl), rfl⟩
theorem p_X0_21 : fs_fp RX0 21 0 2 .int := ⟨RX0, TX0, 7, tyX0, rfl, infX0, by decide, (fs_me1 105 rfl rfl), rfl, tyX0_ok, nmX0, rfl, by decide +kernel⟩
theorem f_X0_25 : fs_fl RX0 25 0 3 := ⟨RX0, TX0, 7, rfl, infX0, by decide, (fs_me1 107 rfl rfl), rfl⟩
theorem p_X0_25 : fs_fp RX0 25 0 3 .int := ⟨RX0, TX0, 7, tyX0, rfl, infX0, by decide, (fs_me1 107 rfl rfl), rfl, tyX0_ok, nmX0, rfl, by decide +kernel⟩
theorem f_X0_28 : fs_fl RX0 28 0 4 := ⟨RX0, TX0, 7, rfl, infX0, by decide, (fs_me1 109 rfl rfl), rfl⟩
theorem f_X0_34 : fs_fl RX0 34 0 5 := ⟨RX0, TX0, 7, rfl, infX0, by decide, (fs_me1 110 rfl rfl), rfl⟩
theorem f_X0_37 : fs_fl RX0 37 0 6 := ⟨RX0, TX0, 7, rfl, infX0, by decide, (fs_me1 111 rfl rfl), rfl⟩
theorem f_X0_61 : fs_fl RX0 61 1 0 := ⟨RX1, TX1, 10, rfl, infX1, by decide, (fs_me1 57 rfl rfl), rfl⟩
theorem p_X0_61 : fs_fp RX0 61 1 0 .int := ⟨RX1, TX1, 10, tyX1, rfl, infX1, by decide, (fs_me1 57 rfl rfl), rfl, tyX1_ok, nmX1, rfl, by decide +kernel⟩
theorem f_X0_68 : fs_fl RX0 68 1 5 := ⟨RX1, TX1, 10, rfl, infX1, by decide, (fs_me1 69 rfl rfl), rfl⟩
theorem f_X0_71 : fs_fl RX0 71 1 4 := ⟨RX1, TX1, 10, rfl, infX1, by decide, (fs_me1 66 rfl rfl), rfl⟩
theorem f_X1_9 : fs_fl RX1 9 1 0 := ⟨RX1, TX1, 10, rfl, infX1, by decide, (fs_me1 56 rfl rfl), rfl⟩
theorem p_X1_9 : fs_fp RX1 9 1 0 .int := ⟨RX1, TX1, 10, tyX1, rfl, infX1, by decide, (fs_me1 56 rfl rfl), rfl, tyX1_ok, nmX1, rfl, by decide +kernel⟩
theorem f_X1_15 : fs_fl RX1 15 1 1 := ⟨RX1, TX1, 10, rfl, infX1, by decide, (fs_me1 59 rfl rfl), rfl⟩
theorem f_X1_19 : fs_fl RX1 19 1 2 := ⟨RX1, TX1, 10, rfl, infX1, by decide, (fs_me1 61 rfl rfl), rfl⟩
theorem f_X1_22 : fs_fl RX1 22 1 3 := ⟨RX1, TX1, 10, rfl, infX1, by decide, (fs_me1 63 rfl rfl), rfl⟩
theorem f_X1_25 : fs_fl RX1 25 1 4 := ⟨RX1, TX1, 10, rfl, infX1, by decide, (fs_me1 65 rfl rfl), rfl⟩
theorem f_X1_28 : fs_fl RX1 28 1 5 := ⟨RX1, TX1, 10, rfl, infX1, by decide, (fs_me1 68 rfl rfl), rfl⟩
theorem f_X1_31 : fs_fl RX1 31 1 6 := ⟨RX1, TX1, 10, rfl, infX1, by decide, (fs_me1 71 rfl rfl), rfl⟩
theorem f_X1_34 : fs_fl RX1 34 1 7 := ⟨RX1, TX1, 10, rfl, infX1, by decide, (fs_me1 73 rfl rfl), rfl⟩
theorem f_X1_37 : fs_fl RX1 37 1 8 := ⟨RX1, TX1, 10, rfl, infX1, by decide, (fs_me1 75 rfl rfl), rfl⟩
theorem p_X1_37 : fs_fp RX1 37 1 8 .int := ⟨RX1, TX1, 10, tyX1, rfl, infX1, by decide, (fs_me1 75 rfl rfl), rfl, tyX1_ok, nmX1, rfl, by decide +kernel⟩
theorem f_X1_40 : fs_fl RX1 40 1 9 := ⟨RX1, TX1, 10, rfl, infX1, by decide, (fs_me1 77 rfl rfl), rfl⟩
theorem p_X1_40 : fs_fp RX1 40 1 9 .int := ⟨RX1, TX1, 10, tyX1, rfl, infX1, by decide, (fs_me1 77 rfl rfl), rfl, tyX1_ok, nmX1, rfl, by decide +kernel⟩
theorem f_X2_17 : fs_fl RX2 17 2 0 := ⟨RX2, TX2, 3, rfl, infX2, by decide, (fs_me1 31 rfl rfl), rfl⟩
theorem f_X2_22 : fs_fl RX2 22 2 1 := ⟨RX2, TX2, 3, rfl, infX2, by decide, (fs_me1 33 rfl rfl), rfl⟩
theorem f_X2_26 : fs_fl RX2 26 2 2 := ⟨RX2, TX2, 3, rfl, infX2, by decide, (fs_me1 35 rfl rfl), rfl⟩
theorem f_X3_14 : fs_fl RX3 14 3 0 := ⟨RX3, TX3, 11, rfl, infX3, by decide, (fs_me1 130 rfl rfl), rfl⟩
theorem f_X3_18 : fs_fl RX3 18 3 1 := ⟨RX3, TX3, 11, rfl, infX3, by decide, (fs_me1 131 rfl rfl), rfl⟩
theorem f_X3_24 : fs_fl RX3 24 3 2 := ⟨RX3, TX3, 11, rfl, infX3, by decide, (fs_me1 132 rfl rfl), rfl⟩
theorem f_X3_31 : fs_fl RX3 31 3 3 := ⟨RX3, TX3, 11, rfl, infX3, by decide, (fs_me1 133 rfl rfl), rfl⟩
theorem f_X3_35 : fs_fl RX3 35 3 4 := ⟨RX3, TX3, 11, rfl, infX3, by decide, (fs_me1 134 rfl rfl), rfl⟩
theorem f_X3_39 : fs_fl RX3 39 3 5 := ⟨RX3, TX3, 11, rfl, infX3, by decide, (fs_me1 135 rfl rfl), rfl⟩
theorem f_X3_42 : fs_fl RX3 42 3 6 := ⟨RX3, TX3, 11, rfl, infX3, by decide, (fs_me1 136 rfl rfl), rfl⟩
theorem f_X3_45 : fs_fl RX3 45 3 7 := ⟨RX3, TX3, 11, rfl, infX3, by decide, (fs_me1 137 rfl rfl), rfl⟩
theorem p_X3_45 : fs_fp RX3 45 3 7 .int := ⟨RX3, TX3, 11, tyX3, rfl, infX3, by decide, (fs_me1 137 rfl rfl), rfl, tyX3_ok, nmX3, rfl, by decide +kernel⟩
theorem f_X3_49 : fs_fl RX3 49 3 8 := ⟨RX3, TX3, 11, rfl, infX3, by decide, (fs_me1 138 rfl rfl), rfl⟩
theorem p_X3_49 : fs_fp RX3 49 3 8 .int := ⟨RX3, TX3, 11, tyX3, rfl, infX3, by decide, (fs_me1 138 rfl rfl), rfl, tyX3_ok, nmX3, rfl, by decide +kernel⟩
theorem f_X3_52 : fs_fl RX3 52 3 9 := ⟨RX3, TX3, 11, rfl, infX3, by decide, (fs_me1 139 rfl rfl), rfl⟩
theorem p_X3_52 : fs_fp RX3 52 3 9 .long := ⟨RX3, TX3, 11, tyX3, rfl, infX3, by decide, (fs_me1 139 rfl rfl), rfl, tyX3_ok, nmX3, rfl, by decide +kernel⟩
theorem f_X3_56 : fs_fl RX3 56 3 10 := ⟨RX3, TX3, 11, rfl, infX3, by decide, (fs_me1 140 rfl rfl), rfl⟩
theorem p_X3_56 : fs_fp RX3 56 3 10 .long := ⟨RX3, TX3, 11, tyX3, rfl, infX3, by decide, (fs_me1 140 rfl rfl), rfl, tyX3_ok, nmX3, rfl, by decide +kernel⟩
theorem f_X3_75 : fs_fl RX3 75 2 0 := ⟨RX2, TX2, 3, rfl, infX2, by decide, (fs_me1 32 rfl rfl), rfl⟩
theorem f_X3_85 : fs_fl RX3 85 2 1 := ⟨RX2, TX2, 3, rfl, infX2, by decide, (fs_me1 34 rfl rfl), rfl⟩
theorem f_X3_113 : fs_fl RX3 113 0 1 := ⟨RX0, TX0, 7, rfl, infX0, by decide, (fs_me1 104 rfl rfl), rfl⟩
theorem f_X3_116 : fs_fl RX3 116 1 0 := ⟨RX1, TX1, 10, rfl, infX1, by decide, (fs_me1 58 rfl rfl), rfl⟩
theorem p_X3_116 : fs_fp RX3 116 1 0 .int := ⟨RX1, TX1, 10, tyX1, rfl, infX1, by decide, (fs_me1 58 rfl rfl), rfl, tyX1_ok, nmX1, rfl, by decide +kernel⟩
theorem f_X3_125 : fs_fl RX3 125 1 1 := ⟨RX1, TX1, 10, rfl, infX1, by decide, (fs_me1 60 rfl rfl), rfl⟩
theorem f_X3_143 : fs_fl RX3 143 1 2 := ⟨RX1, TX1, 10, rfl, infX1, by decide, (fs_me1 62 rfl rfl), rfl⟩
theorem f_X3_154 : fs_fl RX3 154 0 2 := ⟨RX0, TX0, 7, rfl, infX0, by decide, (fs_me1 106 rfl rfl), rfl⟩
theorem p_X3_154 : fs_fp RX3 154 0 2 .int := ⟨RX0, TX0, 7, tyX0, rfl, infX0, by decide, (fs_me1 106 rfl rfl), rfl, tyX0_ok, nmX0, rfl, by decide +kernel⟩
theorem f_X3_167 : fs_fl RX3 167 1 9 := ⟨RX1, TX1, 10, rfl, infX1, by decide, (fs_me1 78 rfl rfl), rfl⟩
theorem p_X3_167 : fs_fp RX3 167 1 9 .int := ⟨RX1, TX1, 10, tyX1, rfl, infX1, by decide, (fs_me1 78 rfl rfl), rfl, tyX1_ok, nmX1, rfl, by decide +kernel⟩
theorem f_X3_170 : fs_fl RX3 170 1 5 := ⟨RX1, TX1, 10, rfl, infX1, by decide, (fs_me1 70 rfl rfl), rfl⟩
theorem f_X3_176 : fs_fl RX3 176 1 4 := ⟨RX1, TX1, 10, rfl, infX1, by decide, (fs_me1 67 rfl rfl), rfl⟩
theorem f_X3_179 : fs_fl RX3 179 0 3 := ⟨RX0, TX0, 7, rfl, infX0, by decide, (fs_me1 108 rfl rfl), rfl⟩
theorem p_X3_179 : fs_fp RX3 179 0 3 .int := ⟨RX0, TX0, 7, tyX0, rfl, infX0, by decide, (fs_me1 108 rfl rfl), rfl, tyX0_ok, nmX0, rfl, by decide +kernel⟩
theorem f_X3_191 : fs_fl RX3 191 0 6 := ⟨RX0, TX0, 7, rfl, infX0, by decide, (fs_me1 112 rfl rfl), rfl⟩
theorem f_X3_200 : fs_fl RX3 200 1 8 := ⟨RX1, TX1, 10, rfl, infX1, by decide, (fs_me1 76 rfl rfl), rfl⟩
theorem p_X3_200 : fs_fp RX3 200 1 8 .int := ⟨RX1, TX1, 10, tyX1, rfl, infX1, by decide, (fs_me1 76 rfl rfl), rfl, tyX1_ok, nmX1, rfl, by decide +kernel⟩
theorem f_X3_209 : fs_fl RX3 209 1 7 := ⟨RX1, TX1, 10, rfl, infX1, by decide, (fs_me1 74 rfl rfl), rfl⟩
theorem f_X3_299 : fs_fl RX3 299 1 3 := ⟨RX1, TX1, 10, rfl, infX1, by decide, (fs_me1 64 rfl rfl), rfl⟩
theorem f_X3_302 : fs_fl RX3 302 1 6 := ⟨RX1, TX1, 10, rfl, infX1, by decide, (fs_me1 72 rfl rfl), rfl⟩
theorem f_X4_7 : fs_fl RX4 7 4 0 := ⟨RX4, TX4, 27, rfl, infX4, by decide, (fs_me3 136 rfl rfl), rfl⟩
theorem f_X4_13 : fs_fl RX4 13 4 1 := ⟨RX4, TX4, 27, rfl, infX4, by decide, (fs_me3 137 rfl rfl), rfl⟩
theorem f_X4_16 : fs_fl RX4 16 4 2 := ⟨RX4, TX4, 27, rfl, infX4, by decide, (fs_me3 138 rfl rfl), rfl⟩
theorem f_X4_19 : fs_fl RX4 19 4 3 := ⟨RX4, TX4, 27, rfl, infX4, by decide, (fs_me3 139 rfl rfl), rfl⟩
theorem f_X4_22 : fs_fl RX4 22 4 6 := ⟨RX4, TX4, 27, rfl, infX4, by decide, (fs_me3 142 rfl rfl), rfl⟩
theorem p_X4_22 : fs_fp RX4 22 4 6 .long := ⟨RX4, TX4, 27, tyX4, rfl, infX4, by decide, (fs_me3 142 rfl rfl), rfl, tyX4_ok, nmX4, rfl, by decide +kernel⟩
theorem f_X4_26 : fs_fl RX4 26 4 8 := ⟨RX4, TX4, 27, rfl, infX4, by decide, (fs_me3 144 rfl rfl), rfl⟩
theorem f_X4_29 : fs_fl RX4 29 4 10 := ⟨RX4, TX4, 27, rfl, infX4, by decide, (fs_me3 146 rfl rfl), rfl⟩
theorem f_X4_32 : fs_fl RX4 32 4 11 := ⟨RX4, TX4, 27, rfl, infX4, by decide, (fs_me3 147 rfl rfl), rfl⟩
theorem f_X4_35 : fs_fl RX4 35 4 12 := ⟨RX4, TX4, 27, rfl, infX4, by decide, (fs_me3 148 rfl rfl), rfl⟩
theorem f_X4_38 : fs_fl RX4 38 4 13 := ⟨RX4, TX4, 27, rfl, infX4, by decide, (fs_me3 149 rfl rfl), rfl⟩
theorem f_X4_41 : fs_fl RX4 41 4 14 := ⟨RX4, TX4, 27, rfl, infX4, by decide, (fs_me3 150 rfl rfl), rfl⟩
theorem f_X4_44 : fs_fl RX4 44 4 15 := ⟨RX4, TX4, 27, rfl, infX4, by decide, (fs_me3 151 rfl rfl), rfl⟩
theorem f_X4_47 : fs_fl RX4 47 4 16 := ⟨RX4, TX4, 27, rfl, infX4, by decide, (fs_me3 152 rfl rfl), rfl⟩
theorem f_X4_50 : fs_fl RX4 50 4 18 := ⟨RX4, TX4, 27, rfl, infX4, by decide, (fs_me3 154 rfl rfl), rfl⟩
theorem f_X4_53 : fs_fl RX4 53 4 24 := ⟨RX4, TX4, 27, rfl, infX4, by decide, (fs_me3 160 rfl rfl), rfl⟩
theorem f_X4_56 : fs_fl RX4 56 4 25 := ⟨RX4, TX4, 27, rfl, infX4, by decide, (fs_me3 161 rfl rfl), rfl⟩
theorem f_X4_59 : fs_fl RX4 59 4 26 := ⟨RX4, TX4, 27, rfl, infX4, by decide, (fs_me3 162 rfl rfl), rfl⟩
theorem f_X4_65 : fs_fl RX4 65 4 7 := ⟨RX4, TX4, 27, rfl, infX4, by decide, (fs_me3 143 rfl rfl), rfl⟩
theorem p_X4_65 : fs_fp RX4 65 4 7 .int := ⟨RX4, TX4, 27, tyX4, rfl, infX4, by decide, (fs_me3 143 rfl rfl), rfl, tyX4_ok, nmX4, rfl, by decide +kernel⟩
theorem f_X4_69 : fs_fl RX4 69 4 4 := ⟨RX4, TX4, 27, rfl, infX4, by decide, (fs_me3 140 rfl rfl), rfl⟩
theorem p_X4_69 : fs_fp RX4 69 4 4 .int := ⟨RX4, TX4, 27, tyX4, rfl, infX4, by decide, (fs_me3 140 rfl rfl), rfl, tyX4_ok, nmX4, rfl, by decide +kernel⟩
theorem f_X4_94 : fs_fl RX4 94 4 17 := ⟨RX4, TX4, 27, rfl, infX4, by decide, (fs_me3 153 rfl rfl), rfl⟩
theorem p_X4_94 : fs_fp RX4 94 4 17 .int := ⟨RX4, TX4, 27, tyX4, rfl, infX4, by decide, (fs_me3 153 rfl rfl), rfl, tyX4_ok, nmX4, rfl, by decide +kernel⟩
theorem f_X4_97 : fs_fl RX4 97 4 19 := ⟨RX4, TX4, 27, rfl, infX4, by decide, (fs_me3 155 rfl rfl), rfl⟩
theorem p_X4_97 : fs_fp RX4 97 4 19 .int := ⟨RX4, TX4, 27, tyX4, rfl, infX4, by decide, (fs_me3 155 rfl rfl), rfl, tyX4_ok, nmX4, rfl, by decide +kernel⟩
theorem f_X4_100 : fs_fl RX4 100 4 20 := ⟨RX4, TX4, 27, rfl, infX4, by decide, (fs_me3 156 rfl rfl), rfl⟩
theorem p_X4_100 : fs_fp RX4 100 4 20 .int := ⟨RX4, TX4, 27, tyX4, rfl, infX4, by decide, (fs_me3 156 rfl rfl), rfl, tyX4_ok, nmX4, rfl, by decide +kernel⟩
theorem f_X4_103 : fs_fl RX4 103 4 21 := ⟨RX4, TX4, 27, rfl, infX4, by decide, (fs_me3 157 rfl rfl), rfl⟩
theorem p_X4_103 : fs_fp RX4 103 4 21 .int := ⟨RX4, TX4, 27, tyX4, rfl, infX4, by decide, (fs_me3 157 rfl rfl), rfl, tyX4_ok, nmX4, rfl, by decide +kernel⟩
theorem f_X4_114 : fs_fl RX4 114 4 22 := ⟨RX4, TX4, 27, rfl, infX4, by decide, (fs_me3 158 rfl rfl), rfl⟩
theorem p_X4_114 : fs_fp RX4 114 4 22 .int := ⟨RX4, TX4, 27, tyX4, rfl, infX4, by decide, (fs_me3 158 rfl rfl), rfl, tyX4_ok, nmX4, rfl, by decide +kernel⟩
theorem f_X4_120 : fs_fl RX4 120 4 23 := ⟨RX4, TX4, 27, rfl, infX4, by decide, (fs_me3 159 rfl rfl), rfl⟩
theorem p_X4_120 : fs_fp RX4 120 4 23 .int := ⟨RX4, TX4, 27, tyX4, rfl, infX4, by decide, (fs_me3 159 rfl rfl), rfl, tyX4_ok, nmX4, rfl, by decide +kernel⟩
theorem f_X4_136 : fs_fl RX4 136 4 9 := ⟨RX4, TX4, 27, rfl, infX4, by decide, (fs_me3 145 rfl rfl), rfl⟩
theorem p_X4_136 : fs_fp RX4 136 4 9 .int := ⟨RX4, TX4, 27, tyX4, rfl, infX4, by decide, (fs_me3 145 rfl rfl), rfl, tyX4_ok, nmX4, rfl, by decide +kernel⟩
theorem f_X4_234 : fs_fl RX4 234 4 5 := ⟨RX4, TX4, 27, rfl, infX4, by decide, (fs_me3 141 rfl rfl), rfl⟩
theorem p_X4_234 : fs_fp RX4 234 4 5 .long := ⟨RX4, TX4, 27, tyX4, rfl, infX4, by decide, (fs_me3 141 rfl rfl), rfl, tyX4_ok, nmX4, rfl, by decide +kernel⟩
theorem k_L_13 : Cond.methodLink RL 13 yX3_row ∈ fs_ws := (fs_me1 164 rfl rfl)
theorem k_L_17 : Cond.methodLink RL 17 yX4_row ∈ fs_ws := (fs_me3 218 rfl rfl)
theorem k_L_18 : Cond.methodLink RL 18 yX3_lay ∈ fs_ws := (fs_me1 179 rfl rfl)
theorem k_L_22 : Cond.methodLink RL 22 yX4_lay ∈ fs_ws := (fs_me3 233 rfl rfl)
theorem k_L_23 : Cond.methodLink RL 23 yX3_at ∈ fs_ws := (fs_me1 195 rfl rfl)
theorem k_L_26 : Cond.methodLink RL 26 yX4_at ∈ fs_ws := (fs_me4 1 rfl rfl)
theorem k_L_27 : Cond.methodLink RL 27 yX3_tear ∈ fs_ws := (fs_me1 203 rfl rfl)
theorem k_L_31 : Cond.methodLink RL 31 yX4_tear ∈ fs_ws := (fs_me4 5 rfl rfl)
theorem k_L_32 : Cond.methodLink RL 32 yX3_copy ∈ fs_ws := (fs_me1 207 rfl rfl)
theorem k_L_36 : Cond.methodLink RL 36 yX4_copy ∈ fs_ws := (fs_me4 9 rfl rfl)
theorem k_L_37 : Cond.methodLink RL 37 yX3_mean ∈ fs_ws := (fs_me1 214 rfl rfl)
theorem k_L_40 : Cond.methodLink RL 40 yX4_mean ∈ fs_ws := (fs_me4 13 rfl rfl)
theorem k_L_41 : Cond.methodLink RL 41 yX3_text ∈ fs_ws := (fs_me1 222 rfl rfl)
theorem k_L_44 : Cond.methodLink RL 44 yX4_text ∈ fs_ws := (fs_me4 17 rfl rfl)
theorem k_L_45 : Cond.methodLink RL 45 yX3_put ∈ fs_ws := (fs_me1 229 rfl rfl)
theorem k_L_48 : Cond.methodLink RL 48 yX4_put ∈ fs_ws := (fs_me4 25 rfl rfl)
theorem k_L_49 : Cond.methodLink RL 49 yX3_fault ∈ fs_ws := (fs_me1 233 rfl rfl)
theorem k_L_52 : Cond.methodLink RL 52 yX4_fault ∈ fs_ws := (fs_me4 29 rfl rfl)
theorem k_L_53 : Cond.methodLink RL 53 yX3_house ∈ fs_ws := (fs_me2 8 rfl rfl)
theorem k_L_56 : Cond.methodLink RL 56 yX4_house ∈ fs_ws := (fs_me4 58 rfl rfl)
theorem k_L_57 : Cond.methodLink RL 57 yX3_one ∈ fs_ws := (fs_me2 45 rfl rfl)
theorem k_L_60 : Cond.methodLink RL 60 yX4_one ∈ fs_ws := (fs_me4 62 rfl rfl)
theorem k_L_61 : Cond.methodLink RL 61 yX3_mark ∈ fs_ws := (fs_me2 58 rfl rfl)
theorem k_L_64 : Cond.methodLink RL 64 yX4_mark ∈ fs_ws := (fs_me4 92 rfl rfl)
theorem k_L_65 : Cond.methodLink RL 65 yX3_regard ∈ fs_ws := (fs_me2 76 rfl rfl)
theorem k_L_68 : Cond.methodLink RL 68 yX4_regard ∈ fs_ws := (fs_me4 99 rfl rfl)
theorem k_L_69 : Cond.methodLink RL 69 yX3_quarter ∈ fs_ws := (fs_me2 81 rfl rfl)
theorem k_L_73 : Cond.methodLink RL 73 yX4_quarter ∈ fs_ws := (fs_me4 104 rfl rfl)
theorem k_L_74 : Cond.methodLink RL 74 yX3_soot ∈ fs_ws := (fs_me2 101 rfl rfl)
theorem k_L_77 : Cond.methodLink RL 77 yX4_soot ∈ fs_ws := (fs_me4 123 rfl rfl)
theorem k_L_78 : Cond.methodLink RL 78 yX3_wash ∈ fs_ws := (fs_me2 105 rfl rfl)
theorem k_L_81 : Cond.methodLink RL 81 yX4_wash ∈ fs_ws := (fs_me4 127 rfl rfl)
theorem k_L_82 : Cond.methodLink RL 82 yX3_gift ∈ fs_ws := (fs_me2 109 rfl rfl)
theorem k_L_85 : Cond.methodLink RL 85 yX4_gift ∈ fs_ws := (fs_me4 131 rfl rfl)
theorem k_L_86 : Cond.methodLink RL 86 yX3_undo ∈ fs_ws := (fs_me2 117 rfl rfl)
theorem k_L_89 : Cond.methodLink RL 89 yX4_undo ∈ fs_ws := (fs_me4 135 rfl rfl)
theorem k_L_90 : Cond.methodLink RL 90 yX3_keep ∈ fs_ws := (fs_me2 122 rfl rfl)
theorem k_L_93 : Cond.methodLink RL 93 yX4_keep ∈ fs_ws := (fs_me4 139 rfl rfl)
theorem k_L_94 : Cond.methodLink RL 94 yX3_on ∈ fs_ws := (fs_me2 134 rfl rfl)
theorem k_L_97 : Cond.methodLink RL 97 yX4_on ∈ fs_ws := (fs_me4 144 rfl rfl)
theorem k_L_98 : Cond.methodLink RL 98 yX3_box ∈ fs_ws := (fs_me2 142 rfl rfl)
theorem k_L_101 : Cond.methodLink RL 101 yX4_box ∈ fs_ws := (fs_me4 148 rfl rfl)
theorem k_L_102 : Cond.methodLink RL 102 yX3_later ∈ fs_ws := (fs_me2 146 rfl rfl)
theorem k_L_105 : Cond.methodLink RL 105 yX4_later ∈ fs_ws := (fs_me4 156 rfl rfl)
theorem k_L_106 : Cond.methodLink RL 106 yX3_settles ∈ fs_ws := (fs_me2 152 rfl rfl)
theorem k_L_109 : Cond.methodLink RL 109 yX4_settles ∈ fs_ws := (fs_me4 165 rfl rfl)
theorem k_L_110 : Cond.methodLink RL 110 yX3_mill ∈ fs_ws := (fs_me2 156 rfl rfl)
theorem k_L_113 : Cond.methodLink RL 113 yX4_mill ∈ fs_ws := (fs_me4 169 rfl rfl)
theorem k_L_114 : Cond.methodLink RL 114 yX3_gains ∈ fs_ws := (fs_me2 164 rfl rfl)
theorem k_L_117 : Cond.methodLink RL 117 yX4_gains ∈ fs_ws := (fs_me4 173 rfl rfl)
theorem k_L_118 : Cond.methodLink RL 118 yX3_even ∈ fs_ws := (fs_me2 177 rfl rfl)
theorem k_L_122 : Cond.methodLink RL 122 yX4_even ∈ fs_ws := (fs_me4 186 rfl rfl)
theorem k_L_123 : Cond.methodLink RL 123 yX3_change ∈ fs_ws := (fs_me2 197 rfl rfl)
theorem k_L_126 : Cond.methodLink RL 126 yX4_change ∈ fs_ws := (fs_me4 197 rfl rfl)
theorem k_L_127 : Cond.methodLink RL 127 yX3_looks ∈ fs_ws := (fs_me2 205 rfl rfl)
theorem k_L_130 : Cond.methodLink RL 130 yX4_looks ∈ fs_ws := (fs_me4 205 rfl rfl)
theorem k_L_131 : Cond.methodLink RL 131 yX3_kinds ∈ fs_ws := (fs_me2 217 rfl rfl)
theorem k_L_134 : Cond.methodLink RL 134 yX4_kinds ∈ fs_ws := (fs_me4 218 rfl rfl)
theorem k_L_135 : Cond.methodLink RL 135 yX3_test ∈ fs_ws := (fs_me2 225 rfl rfl)
theorem k_L_138 : Cond.methodLink RL 138 yX4_test ∈ fs_ws := (fs_me4 226 rfl rfl)
theorem k_L_139 : Cond.methodLink RL 139 yX3_duel ∈ fs_ws := (fs_me2 238 rfl rfl)
theorem k_L_142 : Cond.methodLink RL 142 yX4_duel ∈ fs_ws := (fs_me4 233 rfl rfl)
theorem k_L_143 : Cond.methodLink RL 143 yX3_odds ∈ fs_ws := (fs_me3 18 rfl rfl)
theorem k_L_146 : Cond.methodLink RL 146 yX4_odds ∈ fs_ws := (fs_me5 1 rfl rfl)
theorem k_L_147 : Cond.methodLink RL 147 yX3_mid ∈ fs_ws := (fs_me3 42 rfl rfl)
theorem k_L_150 : Cond.methodLink RL 150 yX4_mid ∈ fs_ws := (fs_me5 18 rfl rfl)
theorem k_L_151 : Cond.methodLink RL 151 yX3_lots ∈ fs_ws := (fs_me3 50 rfl rfl)
theorem k_L_154 : Cond.methodLink RL 154 yX4_lots ∈ fs_ws := (fs_me5 22 rfl rfl)
theorem k_L_155 : Cond.methodLink RL 155 yX3_asked ∈ fs_ws := (fs_me3 65 rfl rfl)
theorem k_L_158 : Cond.methodLink RL 158 yX4_asked ∈ fs_ws := (fs_me5 41 rfl rfl)
theorem k_L_159 : Cond.methodLink RL 159 yX3_upper ∈ fs_ws := (fs_me3 69 rfl rfl)
theorem k_L_163 : Cond.methodLink RL 163 yX4_upper ∈ fs_ws := (fs_me5 45 rfl rfl)
theorem k_L_164 : Cond.methodLink RL 164 yX3_lower ∈ fs_ws := (fs_me3 73 rfl rfl)
theorem k_L_167 : Cond.methodLink RL 167 yX4_lower ∈ fs_ws := (fs_me5 49 rfl rfl)
theorem k_L_168 : Cond.methodLink RL 168 yX3_count ∈ fs_ws := (fs_me3 77 rfl rfl)
theorem k_L_171 : Cond.methodLink RL 171 yX4_count ∈ fs_ws := (fs_me5 53 rfl rfl)
theorem k_L_172 : Cond.methodLink RL 172 yX3_finding ∈ fs_ws := (fs_me3 107 rfl rfl)
theorem k_L_175 : Cond.methodLink RL 175 yX4_finding ∈ fs_ws := (fs_me5 68 rfl rfl)
theorem k_L_176 : Cond.methodLink RL 176 yX3_findings ∈ fs_ws := (fs_me3 111 rfl rfl)
theorem k_L_179 : Cond.methodLink RL 179 yX4_findings ∈ fs_ws := (fs_me5 72 rfl rfl)
theorem k_L_180 : Cond.methodLink RL 180 yX3_digest ∈ fs_ws := (fs_me3 115 rfl rfl)
theorem k_L_183 : Cond.methodLink RL 183 yX4_digest ∈ fs_ws := (fs_me5 76 rfl rfl)
theorem k_X0_40 : Cond.methodLink RX0 40 yJ7_fill_53178 ∈ fs_ws := (fs_me1 101 rfl rfl)
theorem k_X0_46 : Cond.methodLink RX0 46 yX1_take ∈ fs_ws := (fs_me2 16 rfl rfl)
theorem k_X0_50 : Cond.methodLink RX0 50 yX0_replay ∈ fs_ws := (fs_me2 21 rfl rfl)
theorem k_X0_54 : Cond.methodLink RX0 54 yX0_wouldOverflow ∈ fs_ws := (fs_me2 100 rfl rfl)
theorem k_X0_58 : Cond.methodLink RX0 58 yX0_perform ∈ fs_ws := (fs_me2 25 rfl rfl)
theorem k_X0_64 : Cond.methodLink RX0 64 yX1_pass ∈ fs_ws := (fs_me2 29 rfl rfl)
theorem k_X0_74 : fs_m1 RX0 74 Lib.Math.min.name Lib.Math.min.code 2 := ⟨(fs_me2 44 rfl rfl), (fs_me2 41 rfl rfl), (fs_me1 3 rfl rfl), (fs_me2 42 rfl rfl)⟩
theorem k_X0_80 : fs_ac RX0 80 := ⟨(fs_me2 133 rfl rfl), (fs_me1 213 rfl rfl), (fs_me1 212 rfl rfl), (fs_me1 8 rfl rfl)⟩
theorem k_X1_43 : fs_ac RX1 43 := ⟨(fs_me2 20 rfl rfl), (fs_me1 213 rfl rfl), (fs_me1 212 rfl rfl), (fs_me1 8 rfl rfl)⟩
theorem k_X1_49 : Cond.methodLink RX1 49 yX1_readItem ∈ fs_ws := (fs_me2 1 rfl rfl)
theorem k_X1_53 : Cond.methodLink RX1 53 yX1_kindByLetter ∈ fs_ws := (fs_me2 5 rfl rfl)
theorem k_X1_57 : Cond.methodLink RX1 57 yX1_kindAbove ∈ fs_ws := (fs_me2 65 rfl rfl)
theorem k_X1_60 : Cond.methodLink RX1 60 yX1_regardOf ∈ fs_ws := (fs_me2 37 rfl rfl)
theorem k_X1_64 : Cond.methodLink RX1 64 yX1_weigh ∈ fs_ws := (fs_me2 33 rfl rfl)
theorem k_X1_67 : fs_m1 RX1 67 Lib.Math.min.name Lib.Math.min.code 2 := ⟨(fs_me2 40 rfl rfl), (fs_me2 41 rfl rfl), (fs_me1 3 rfl rfl), (fs_me2 42 rfl rfl)⟩
theorem k_X1_73 : fs_m1 RX1 73 Lib.Math.max.name Lib.Math.max.code 2 := ⟨(fs_me2 43 rfl rfl), (fs_me1 24 rfl rfl), (fs_me1 3 rfl rfl), (fs_me1 25 rfl rfl)⟩
theorem k_X1_76 : Cond.methodLink RX1 76 yX1_pass ∈ fs_ws := (fs_me2 176 rfl rfl)
theorem k_X1_80 : Cond.methodLink RX1 80 yX1_regardedUnless ∈ fs_ws := (fs_me3 26 rfl rfl)
theorem k_X1_83 : Cond.methodLink RX1 83 yX1_isOf ∈ fs_ws := (fs_me3 106 rfl rfl)
theorem k_X2_9 : fs_m1 RX2 9 Lib.Math.max.name Lib.Math.max.code 2 := ⟨(fs_me1 23 rfl rfl), (fs_me1 24 rfl rfl), (fs_me1 3 rfl rfl), (fs_me1 25 rfl rfl)⟩
theorem k_X2_30 : Cond.methodLink RX2 30 yJ7_fill_53178 ∈ fs_ws := (fs_me1 28 rfl rfl)
theorem k_X2_36 : Cond.methodLink RX2 36 yX2_has ∈ fs_ws := (fs_me3 97 rfl rfl)
theorem k_X3_59 : Cond.methodLink RX3 59 yX3_isRow ∈ fs_ws := (fs_me1 168 rfl rfl)
theorem k_X3_63 : Cond.methodLink RX3 63 yX3_refuse ∈ fs_ws := (fs_me1 171 rfl rfl)
theorem k_X3_67 : Cond.methodLink RX3 67 yX2_lie ∈ fs_ws := (fs_me1 175 rfl rfl)
theorem k_X3_71 : Cond.methodLink RX3 71 yX3_refusePlace ∈ fs_ws := (fs_me1 183 rfl rfl)
theorem k_X3_79 : Cond.methodLink RX3 79 yX3_tell ∈ fs_ws := (fs_me1 199 rfl rfl)
theorem k_X3_82 : Cond.methodLink RX3 82 yX2_has ∈ fs_ws := (fs_me1 187 rfl rfl)
theorem k_X3_88 : Cond.methodLink RX3 88 yX2_reaches ∈ fs_ws := (fs_me1 191 rfl rfl)
theorem k_X3_92 : fs_ac RX3 92 := ⟨(fs_me1 211 rfl rfl), (fs_me1 213 rfl rfl), (fs_me1 212 rfl rfl), (fs_me1 8 rfl rfl)⟩
theorem k_X3_98 : Cond.methodLink RX3 98 yX2_sum ∈ fs_ws := (fs_me1 218 rfl rfl)
theorem k_X3_102 : Cond.methodLink RX3 102 yX3_isText ∈ fs_ws := (fs_me1 226 rfl rfl)
theorem k_X3_105 : Cond.methodLink RX3 105 yX1_read ∈ fs_ws := (fs_me1 237 rfl rfl)
theorem k_X3_109 : Cond.methodLink RX3 109 yX0_found ∈ fs_ws := (fs_me2 12 rfl rfl)
theorem k_X3_119 : Cond.methodLink RX3 119 yX3_isKin ∈ fs_ws := (fs_me2 49 rfl rfl)
theorem k_X3_122 : Cond.methodLink RX3 122 yX3_ofOne ∈ fs_ws := (fs_me2 53 rfl rfl)
theorem k_X3_128 : Cond.methodLink RX3 128 yX1_isOf ∈ fs_ws := (fs_me2 62 rfl rfl)
theorem k_X3_132 : Cond.methodLink RX3 132 yX1_regardAs ∈ fs_ws := (fs_me2 68 rfl rfl)
theorem k_X3_135 : Cond.methodLink RX3 135 yX1_kindAbove ∈ fs_ws := (fs_me2 72 rfl rfl)
theorem k_X3_138 : fs_m1 RX3 138 Lib.Math.abs.name Lib.Math.abs.code 1 := ⟨(fs_me2 73 rfl rfl), (fs_me2 74 rfl rfl), (fs_me1 3 rfl rfl), (fs_me2 75 rfl rfl)⟩
theorem k_X3_146 : Cond.methodLink RX3 146 yX1_regardOf ∈ fs_ws := (fs_me2 80 rfl rfl)
theorem k_X3_150 : Cond.methodLink RX3 150 yX3_noKin ∈ fs_ws := (fs_me2 85 rfl rfl)
theorem k_X3_157 : Cond.methodLink RX3 157 yX0_wouldOverflow ∈ fs_ws := (fs_me2 89 rfl rfl)
theorem k_X3_160 : Cond.methodLink RX3 160 yX0_deed ∈ fs_ws := (fs_me2 93 rfl rfl)
theorem k_X3_163 : Cond.methodLink RX3 163 yX0_enter ∈ fs_ws := (fs_me2 96 rfl rfl)
theorem k_X3_173 : Cond.methodLink RX3 173 yX3_areTwo ∈ fs_ws := (fs_me2 113 rfl rfl)
theorem k_X3_182 : Cond.methodLink RX3 182 yX0_replay ∈ fs_ws := (fs_me2 121 rfl rfl)
theorem k_X3_185 : Cond.methodLink RX3 185 yX3_isKept ∈ fs_ws := (fs_me2 126 rfl rfl)
theorem k_X3_188 : Cond.methodLink RX3 188 yX0_store ∈ fs_ws := (fs_me2 129 rfl rfl)
theorem k_X3_194 : Cond.methodLink RX3 194 yX0_restore ∈ fs_ws := (fs_me2 138 rfl rfl)
theorem k_X3_197 : Cond.methodLink RX3 197 yX1_weigh ∈ fs_ws := (fs_me2 57 rfl rfl)
theorem k_X3_203 : Cond.methodLink RX3 203 yX1_take ∈ fs_ws := (fs_me2 150 rfl rfl)
theorem k_X3_206 : Cond.methodLink RX3 206 yX1_pass ∈ fs_ws := (fs_me2 151 rfl rfl)
theorem k_X3_212 : Cond.methodLink RX3 212 yX1_firstWith ∈ fs_ws := (fs_me2 160 rfl rfl)
theorem k_X3_215 : Cond.methodLink RX3 215 yX3_purseBehind ∈ fs_ws := (fs_me2 168 rfl rfl)
theorem k_X3_219 : Cond.methodLink RX3 219 yX3_changedBy ∈ fs_ws := (fs_me2 181 rfl rfl)
theorem k_X3_222 : Cond.methodLink RX3 222 yX3_evenBy ∈ fs_ws := (fs_me2 189 rfl rfl)
theorem k_X3_226 : Cond.methodLink RX3 226 yX3_laySoot ∈ fs_ws := (fs_me2 193 rfl rfl)
theorem k_X3_229 : Cond.methodLink RX3 229 yX3_givenIfChanged ∈ fs_ws := (fs_me2 201 rfl rfl)
theorem k_X3_232 : Cond.methodLink RX3 232 yX3_refusePairs ∈ fs_ws := (fs_me2 209 rfl rfl)
theorem k_X3_235 : Cond.methodLink RX3 235 yX3_fitsPairs ∈ fs_ws := (fs_me2 213 rfl rfl)
theorem k_X3_238 : Cond.methodLink RX3 238 yX3_kindsByPairs ∈ fs_ws := (fs_me2 221 rfl rfl)
theorem k_X3_241 : Cond.methodLink RX3 241 yX3_greatestPart ∈ fs_ws := (fs_me2 229 rfl rfl)
theorem k_X3_244 : Cond.methodLink RX3 244 yX3_duelEnd ∈ fs_ws := (fs_me3 2 rfl rfl)
theorem k_X3_247 : Cond.methodLink RX3 247 yX3_bestForFirst ∈ fs_ws := (fs_me3 6 rfl rfl)
theorem k_X3_250 : Cond.methodLink RX3 250 yX3_bestForSecond ∈ fs_ws := (fs_me3 14 rfl rfl)
theorem k_X3_253 : Cond.methodLink RX3 253 yX3_duelWay ∈ fs_ws := (fs_me3 11 rfl rfl)
theorem k_X3_256 : Cond.methodLink RX3 256 yX1_paidUnless ∈ fs_ws := (fs_me3 22 rfl rfl)
theorem k_X3_259 : Cond.methodLink RX3 259 yX3_chanceOf ∈ fs_ws := (fs_me3 30 rfl rfl)
theorem k_X3_263 : Cond.methodLink RX3 263 yX3_tellPart ∈ fs_ws := (fs_me3 34 rfl rfl)
theorem k_X3_267 : Cond.methodLink RX3 267 yX3_givenUnless ∈ fs_ws := (fs_me3 46 rfl rfl)
theorem k_X3_275 : Cond.methodLink RX3 275 yX3_deedByLot ∈ fs_ws := (fs_me3 57 rfl rfl)
theorem k_X3_278 : Cond.methodLink RX3 278 yX1_allPurses ∈ fs_ws := (fs_me3 61 rfl rfl)
theorem k_X3_282 : Cond.methodLink RX3 282 yX3_counted ∈ fs_ws := (fs_me3 81 rfl rfl)
theorem k_X3_289 : Cond.methodLink RX3 289 yX2_mixInto ∈ fs_ws := (fs_me3 121 rfl rfl)
theorem k_X3_295 : Cond.methodLink RX3 295 yX3_commonDivisor ∈ fs_ws := (fs_me3 39 rfl rfl)
theorem k_X3_305 : Cond.methodLink RX3 305 yX1_allSooted ∈ fs_ws := (fs_me3 85 rfl rfl)
theorem k_X3_308 : Cond.methodLink RX3 308 yX1_highestRegard ∈ fs_ws := (fs_me3 89 rfl rfl)
theorem k_X3_311 : Cond.methodLink RX3 311 yX2_present ∈ fs_ws := (fs_me3 93 rfl rfl)
theorem k_X3_314 : Cond.methodLink RX3 314 yX0_allKept ∈ fs_ws := (fs_me3 98 rfl rfl)
theorem k_X3_317 : Cond.methodLink RX3 317 yX1_allOf ∈ fs_ws := (fs_me3 102 rfl rfl)
theorem k_X3_320 : Cond.methodLink RX3 320 yX1_passAll ∈ fs_ws := (fs_me2 172 rfl rfl)
theorem k_X3_323 : Cond.methodLink RX3 323 yX3_sootBy ∈ fs_ws := (fs_me2 185 rfl rfl)
theorem k_X3_326 : Cond.methodLink RX3 326 yX3_partLike ∈ fs_ws := (fs_me2 233 rfl rfl)
theorem k_X3_329 : fs_m1 RX3 329 Lib.Math.max.name Lib.Math.max.code 2 := ⟨(fs_me2 237 rfl rfl), (fs_me1 24 rfl rfl), (fs_me1 3 rfl rfl), (fs_me1 25 rfl rfl)⟩
theorem k_X3_332 : fs_m1 RX3 332 Lib.Math.min.name Lib.Math.min.code 2 := ⟨(fs_me3 10 rfl rfl), (fs_me2 41 rfl rfl), (fs_me1 3 rfl rfl), (fs_me2 42 rfl rfl)⟩
theorem k_X4_62 : Cond.methodLink RX4 62 yX4_forgets ∈ fs_ws := (fs_me3 132 rfl rfl)
theorem k_X4_74 : Cond.methodLink RX4 74 yX4_in ∈ fs_ws := (fs_me3 226 rfl rfl)
theorem k_X4_80 : Cond.methodLink RX4 80 yX4_isRow ∈ fs_ws := (fs_me3 222 rfl rfl)
theorem k_X4_84 : Cond.methodLink RX4 84 yX4_found ∈ fs_ws := (fs_me3 229 rfl rfl)
theorem k_X4_88 : Cond.methodLink RX4 88 yX4_tell ∈ fs_ws := (fs_me3 237 rfl rfl)
theorem k_X4_91 : Cond.methodLink RX4 91 yX4_isText ∈ fs_ws := (fs_me4 21 rfl rfl)
theorem k_X4_106 : Cond.methodLink RX4 106 yX4_here ∈ fs_ws := (fs_me4 41 rfl rfl)
theorem k_X4_117 : Cond.methodLink RX4 117 yX4_kindOf ∈ fs_ws := (fs_me4 49 rfl rfl)
theorem k_X4_123 : Cond.methodLink RX4 123 yX4_isFigure ∈ fs_ws := (fs_me4 52 rfl rfl)
theorem k_X4_127 : Cond.methodLink RX4 127 yX4_skips ∈ fs_ws := (fs_me4 37 rfl rfl)
theorem k_X4_130 : Cond.methodLink RX4 130 yX4_readsOne ∈ fs_ws := (fs_me4 45 rfl rfl)
theorem k_X4_133 : Cond.methodLink RX4 133 yX4_reads ∈ fs_ws := (fs_me4 33 rfl rfl)
theorem k_X4_139 : Cond.methodLink RX4 139 yX4_greater ∈ fs_ws := (fs_me4 78 rfl rfl)
theorem k_X4_143 : Cond.methodLink RX4 143 yX4_lesser ∈ fs_ws := (fs_me4 81 rfl rfl)
theorem k_X4_146 : Cond.methodLink RX4 146 yX4_regardBy ∈ fs_ws := (fs_me4 75 rfl rfl)
theorem k_X4_150 : Cond.methodLink RX4 150 yX4_laysRegards ∈ fs_ws := (fs_me4 88 rfl rfl)
theorem k_X4_154 : Cond.methodLink RX4 154 yX4_gives ∈ fs_ws := (fs_me4 119 rfl rfl)
theorem k_X4_157 : Cond.methodLink RX4 157 yX4_isOne ∈ fs_ws := (fs_me4 66 rfl rfl)
theorem k_X4_162 : Cond.methodLink RX4 162 yX4_regardAs ∈ fs_ws := (fs_me4 71 rfl rfl)
theorem k_X4_165 : Cond.methodLink RX4 165 yX4_paid ∈ fs_ws := (fs_me4 84 rfl rfl)
theorem k_X4_168 : Cond.methodLink RX4 168 yX4_isOf ∈ fs_ws := (fs_me4 96 rfl rfl)
theorem k_X4_174 : Cond.methodLink RX4 174 yX4_copies ∈ fs_ws := (fs_me4 112 rfl rfl)
theorem k_X4_178 : Cond.methodLink RX4 178 yX4_remember ∈ fs_ws := (fs_me4 108 rfl rfl)
theorem k_X4_181 : Cond.methodLink RX4 181 yX4_goes ∈ fs_ws := (fs_me4 115 rfl rfl)
theorem k_X4_186 : Cond.methodLink RX4 186 yX4_answer ∈ fs_ws := (fs_me4 152 rfl rfl)
theorem k_X4_191 : Cond.methodLink RX4 191 yX4_layAside ∈ fs_ws := (fs_me4 161 rfl rfl)
theorem k_X4_194 : Cond.methodLink RX4 194 yX4_givesIn ∈ fs_ws := (fs_me4 182 rfl rfl)
theorem k_X4_199 : Cond.methodLink RX4 199 yX4_purseBehind ∈ fs_ws := (fs_me4 178 rfl rfl)
theorem k_X4_205 : Cond.methodLink RX4 205 yX4_laysSoot ∈ fs_ws := (fs_me4 192 rfl rfl)
theorem k_X4_208 : Cond.methodLink RX4 208 yX4_row ∈ fs_ws := (fs_me4 196 rfl rfl)
theorem k_X4_211 : Cond.methodLink RX4 211 yX4_changes ∈ fs_ws := (fs_me4 201 rfl rfl)
theorem k_X4_217 : Cond.methodLink RX4 217 yX4_refusesPairs ∈ fs_ws := (fs_me4 209 rfl rfl)
theorem k_X4_220 : Cond.methodLink RX4 220 yX4_isSo ∈ fs_ws := (fs_me4 214 rfl rfl)
theorem k_X4_224 : Cond.methodLink RX4 224 yX4_kindsOf ∈ fs_ws := (fs_me4 222 rfl rfl)
theorem k_X4_227 : Cond.methodLink RX4 227 yX4_has ∈ fs_ws := (fs_me4 230 rfl rfl)
theorem k_X4_230 : Cond.methodLink RX4 230 yX4_weighs ∈ fs_ws := (fs_me4 237 rfl rfl)
theorem k_X4_239 : Cond.methodLink RX4 239 yX4_ways ∈ fs_ws := (fs_me5 6 rfl rfl)
theorem k_X4_243 : Cond.methodLink RX4 243 yX4_allWays ∈ fs_ws := (fs_me5 10 rfl rfl)
theorem k_X4_247 : Cond.methodLink RX4 247 yX4_fraction ∈ fs_ws := (fs_me5 14 rfl rfl)
theorem k_X4_253 : Cond.methodLink RX4 253 yX4_refuses ∈ fs_ws := (fs_me5 27 rfl rfl)
theorem k_X4_260 : Cond.methodLink RX4 260 yX4_lot ∈ fs_ws := (fs_me5 33 rfl rfl)
theorem k_X4_264 : Cond.methodLink RX4 264 yX4_purses ∈ fs_ws := (fs_me5 37 rfl rfl)
theorem k_X4_267 : Cond.methodLink RX4 267 yX4_sooted ∈ fs_ws := (fs_me5 57 rfl rfl)
theorem k_X4_270 : Cond.methodLink RX4 270 yX4_there ∈ fs_ws := (fs_me5 61 rfl rfl)
theorem k_X4_274 : Cond.methodLink RX4 274 yX4_ofKind ∈ fs_ws := (fs_me5 64 rfl rfl)
theorem k_X4_281 : Cond.methodLink RX4 281 yX4_count ∈ fs_ws := (fs_me5 82 rfl rfl)
theorem v_J7_fill_53178 : fs_yS yJ7_fill_53178 cJ7_fill_53178 4 none 2 := ⟨(fs_me1 29 rfl rfl), (fs_me1 4 rfl rfl), (fs_me1 30 rfl rfl), by decide +kernel, by decide +kernel, by decide +kernel⟩
theorem v_X0_allKept : fs_yV yX0_allKept cX0_allKept 3 (some .int) 0 := ⟨(fs_me3 99 rfl rfl), (fs_me3 100 rfl rfl), (fs_me1 5 rfl rfl), (fs_me3 101 rfl rfl), by decide +kernel, by decide +kernel, by decide +kernel⟩
theorem v_X0_deed : fs_yS yX0_deed cX0_deed 4 (some .int) 4 := ⟨(fs_me2 94 rfl rfl), (fs_me1 5 rfl rfl), (fs_me2 95 rfl rfl), by decide +kernel, by decide +kernel, by decide +kernel⟩
theorem v_X0_enter : fs_yV yX0_enter cX0_enter 2 none 1 := ⟨(fs_me2 97 rfl rfl), (fs_me2 98 rfl rfl), (fs_me1 5 rfl rfl), (fs_me2 99 rfl rfl), by decide +kernel, by decide +kernel, by decide +kernel⟩
theorem v_X0_found : fs_yV yX0_found cX0_found 2 none 1 := ⟨(fs_me2 13 rfl rfl), (fs_me2 14 rfl rfl), (fs_me1 5 rfl rfl), (fs_me2 15 rfl rfl), by decide +kernel, by decide +kernel, by decide +kernel⟩
theorem v_X0_perform : fs_yV yX0_perform cX0_perform 5 none 1 := ⟨(fs_me2 26 rfl rfl), (fs_me2 27 rfl rfl), (fs_me1 5 rfl rfl), (fs_me2 28 rfl rfl), by decide +kernel, by decide +kernel, by decide +kernel⟩
theorem v_X0_replay : fs_yV yX0_replay cX0_replay 3 none 1 := ⟨(fs_me2 22 rfl rfl), (fs_me2 23 rfl rfl), (fs_me1 5 rfl rfl), (fs_me2 24 rfl rfl), by decide +kernel, by decide +kernel, by decide +kernel⟩
theorem v_X0_restore : fs_yV yX0_restore cX0_restore 2 none 1 := ⟨(fs_me2 139 rfl rfl), (fs_me2 140 rfl rfl), (fs_me1 5 rfl rfl), (fs_me2 141 rfl rfl), by decide +kernel, by decide +kernel, by decide +kernel⟩
theorem v_X0_store : fs_yV yX0_store cX0_store 2 none 1 := ⟨(fs_me2 130 rfl rfl), (fs_me2 131 rfl rfl), (fs_me1 5 rfl rfl), (fs_me2 132 rfl rfl), by decide +kernel, by decide +kernel, by decide +kernel⟩
theorem v_X0_wouldOverflow : fs_yV yX0_wouldOverflow cX0_wouldOverflow 2 (some .boolean) 1 := ⟨(fs_me2 90 rfl rfl), (fs_me2 91 rfl rfl), (fs_me1 5 rfl rfl), (fs_me2 92 rfl rfl), by decide +kernel, by decide +kernel, by decide +kernel⟩
theorem v_X1_allOf : fs_yV yX1_allOf cX1_allOf 4 (some .int) 1 := ⟨(fs_me3 103 rfl rfl), (fs_me3 104 rfl rfl), (fs_me1 6 rfl rfl), (fs_me3 105 rfl rfl), by decide +kernel, by decide +kernel, by decide +kernel⟩
theorem v_X1_allPurses : fs_yV yX1_allPurses cX1_allPurses 3 (some .int) 0 := ⟨(fs_me3 62 rfl rfl), (fs_me3 63 rfl rfl), (fs_me1 6 rfl rfl), (fs_me3 64 rfl rfl), by decide +kernel, by decide +kernel, by decide +kernel⟩
theorem v_X1_allSooted : fs_yV yX1_allSooted cX1_allSooted 3 (some .int) 0 := ⟨(fs_me3 86 rfl rfl), (fs_me3 87 rfl rfl), (fs_me1 6 rfl rfl), (fs_me3 88 rfl rfl), by decide +kernel, by decide +kernel, by decide +kernel⟩
theorem v_X1_firstWith : fs_yV yX1_firstWith cX1_firstWith 3 (some .int) 1 := ⟨(fs_me2 161 rfl rfl), (fs_me2 162 rfl rfl), (fs_me1 6 rfl rfl), (fs_me2 163 rfl rfl), by decide +kernel, by decide +kernel, by decide +kernel⟩
theorem v_X1_highestRegard : fs_yV yX1_highestRegard cX1_highestRegard 1 (some .int) 0 := ⟨(fs_me3 90 rfl rfl), (fs_me3 91 rfl rfl), (fs_me1 6 rfl rfl), (fs_me3 92 rfl rfl), by decide +kernel, by decide +kernel, by decide +kernel⟩
theorem v_X1_isOf : fs_yS yX1_isOf cX1_isOf 2 (some .boolean) 2 := ⟨(fs_me2 63 rfl rfl), (fs_me1 6 rfl rfl), (fs_me2 64 rfl rfl), by decide +kernel, by decide +kernel, by decide +kernel⟩
theorem v_X1_kindAbove : fs_yS yX1_kindAbove cX1_kindAbove 1 (some .int) 1 := ⟨(fs_me2 66 rfl rfl), (fs_me1 6 rfl rfl), (fs_me2 67 rfl rfl), by decide +kernel, by decide +kernel, by decide +kernel⟩
theorem v_X1_kindByLetter : fs_yS yX1_kindByLetter cX1_kindByLetter 1 (some .int) 1 := ⟨(fs_me2 6 rfl rfl), (fs_me1 6 rfl rfl), (fs_me2 7 rfl rfl), by decide +kernel, by decide +kernel, by decide +kernel⟩
theorem v_X1_paidUnless : fs_yV yX1_paidUnless cX1_paidUnless 5 (some .int) 2 := ⟨(fs_me3 23 rfl rfl), (fs_me3 24 rfl rfl), (fs_me1 6 rfl rfl), (fs_me3 25 rfl rfl), by decide +kernel, by decide +kernel, by decide +kernel⟩
theorem v_X1_pass : fs_yV yX1_pass cX1_pass 4 (some .boolean) 0 := ⟨(fs_me2 30 rfl rfl), (fs_me2 31 rfl rfl), (fs_me1 6 rfl rfl), (fs_me2 32 rfl rfl), by decide +kernel, by decide +kernel, by decide +kernel⟩
theorem v_X1_passAll : fs_yV yX1_passAll cX1_passAll 4 (some .int) 1 := ⟨(fs_me2 173 rfl rfl), (fs_me2 174 rfl rfl), (fs_me1 6 rfl rfl), (fs_me2 175 rfl rfl), by decide +kernel, by decide +kernel, by decide +kernel⟩
theorem v_X1_read : fs_yV yX1_read cX1_read 5 (some .int) 2 := ⟨(fs_me1 238 rfl rfl), (fs_me1 239 rfl rfl), (fs_me1 6 rfl rfl), (fs_me2 0 rfl rfl), by decide +kernel, by decide +kernel, by decide +kernel⟩
theorem v_X1_readItem : fs_yV yX1_readItem cX1_readItem 6 (some .int) 3 := ⟨(fs_me2 2 rfl rfl), (fs_me2 3 rfl rfl), (fs_me1 6 rfl rfl), (fs_me2 4 rfl rfl), by decide +kernel, by decide +kernel, by decide +kernel⟩
theorem v_X1_regardAs : fs_yV yX1_regardAs cX1_regardAs 3 (some .int) 2 := ⟨(fs_me2 69 rfl rfl), (fs_me2 70 rfl rfl), (fs_me1 6 rfl rfl), (fs_me2 71 rfl rfl), by decide +kernel, by decide +kernel, by decide +kernel⟩
theorem v_X1_regardOf : fs_yS yX1_regardOf cX1_regardOf 7 (some .int) 4 := ⟨(fs_me2 38 rfl rfl), (fs_me1 6 rfl rfl), (fs_me2 39 rfl rfl), by decide +kernel, by decide +kernel, by decide +kernel⟩
theorem v_X1_regardedUnless : fs_yV yX1_regardedUnless cX1_regardedUnless 3 (some .int) 2 := ⟨(fs_me3 27 rfl rfl), (fs_me3 28 rfl rfl), (fs_me1 6 rfl rfl), (fs_me3 29 rfl rfl), by decide +kernel, by decide +kernel, by decide +kernel⟩
theorem v_X1_take : fs_yV yX1_take cX1_take 2 none 1 := ⟨(fs_me2 17 rfl rfl), (fs_me2 18 rfl rfl), (fs_me1 6 rfl rfl), (fs_me2 19 rfl rfl), by decide +kernel, by decide +kernel, by decide +kernel⟩
theorem v_X1_weigh : fs_yV yX1_weigh cX1_weigh 2 none 0 := ⟨(fs_me2 34 rfl rfl), (fs_me2 35 rfl rfl), (fs_me1 6 rfl rfl), (fs_me2 36 rfl rfl), by decide +kernel, by decide +kernel, by decide +kernel⟩
theorem v_X2_has : fs_yV yX2_has cX2_has 2 (some .boolean) 1 := ⟨(fs_me1 188 rfl rfl), (fs_me1 189 rfl rfl), (fs_me1 2 rfl rfl), (fs_me1 190 rfl rfl), by decide +kernel, by decide +kernel, by decide +kernel⟩
theorem v_X2_lie : fs_yV yX2_lie cX2_lie 4 none 2 := ⟨(fs_me1 176 rfl rfl), (fs_me1 177 rfl rfl), (fs_me1 2 rfl rfl), (fs_me1 178 rfl rfl), by decide +kernel, by decide +kernel, by decide +kernel⟩
theorem v_X2_mixInto : fs_yV yX2_mixInto cX2_mixInto 7 (some .long) 1 := ⟨(fs_me3 122 rfl rfl), (fs_me3 123 rfl rfl), (fs_me1 2 rfl rfl), (fs_me3 124 rfl rfl), by decide +kernel, by decide +kernel, by decide +kernel⟩
theorem v_X2_present : fs_yV yX2_present cX2_present 3 (some .int) 0 := ⟨(fs_me3 94 rfl rfl), (fs_me3 95 rfl rfl), (fs_me1 2 rfl rfl), (fs_me3 96 rfl rfl), by decide +kernel, by decide +kernel, by decide +kernel⟩
theorem v_X2_reaches : fs_yV yX2_reaches cX2_reaches 4 (some .boolean) 3 := ⟨(fs_me1 192 rfl rfl), (fs_me1 193 rfl rfl), (fs_me1 2 rfl rfl), (fs_me1 194 rfl rfl), by decide +kernel, by decide +kernel, by decide +kernel⟩
theorem v_X2_sum : fs_yV yX2_sum cX2_sum 5 (some .long) 1 := ⟨(fs_me1 219 rfl rfl), (fs_me1 220 rfl rfl), (fs_me1 2 rfl rfl), (fs_me1 221 rfl rfl), by decide +kernel, by decide +kernel, by decide +kernel⟩
theorem v_X3_areTwo : fs_yV yX3_areTwo cX3_areTwo 3 (some .boolean) 2 := ⟨(fs_me2 115 rfl rfl), (fs_me0 6 rfl rfl), (fs_me1 1 rfl rfl), (fs_me2 116 rfl rfl), by decide +kernel, by decide +kernel, by decide +kernel⟩
theorem v_X3_asked : fs_yV yX3_asked cX3_asked 1 (some .int) 0 := ⟨(fs_me3 66 rfl rfl), (fs_me3 67 rfl rfl), (fs_me1 1 rfl rfl), (fs_me3 68 rfl rfl), by decide +kernel, by decide +kernel, by decide +kernel⟩
theorem v_X3_at : fs_yV yX3_at cX3_at 4 (some .int) 2 := ⟨(fs_me1 196 rfl rfl), (fs_me1 197 rfl rfl), (fs_me1 1 rfl rfl), (fs_me1 198 rfl rfl), by decide +kernel, by decide +kernel, by decide +kernel⟩
theorem v_X3_bestForFirst : fs_yV yX3_bestForFirst cX3_bestForFirst 6 (some .int) 1 := ⟨(fs_me3 8 rfl rfl), (fs_me0 19 rfl rfl), (fs_me1 1 rfl rfl), (fs_me3 9 rfl rfl), by decide +kernel, by decide +kernel, by decide +kernel⟩
theorem v_X3_bestForSecond : fs_yV yX3_bestForSecond cX3_bestForSecond 6 (some .int) 1 := ⟨(fs_me3 16 rfl rfl), (fs_me0 20 rfl rfl), (fs_me1 1 rfl rfl), (fs_me3 17 rfl rfl), by decide +kernel, by decide +kernel, by decide +kernel⟩
theorem v_X3_box : fs_yV yX3_box cX3_box 1 (some .int) 0 := ⟨(fs_me2 143 rfl rfl), (fs_me2 144 rfl rfl), (fs_me1 1 rfl rfl), (fs_me2 145 rfl rfl), by decide +kernel, by decide +kernel, by decide +kernel⟩
theorem v_X3_chanceOf : fs_yV yX3_chanceOf cX3_chanceOf 6 (some .long) 2 := ⟨(fs_me3 32 rfl rfl), (fs_me0 21 rfl rfl), (fs_me1 1 rfl rfl), (fs_me3 33 rfl rfl), by decide +kernel, by decide +kernel, by decide +kernel⟩
theorem v_X3_change : fs_yV yX3_change cX3_change 8 (some .int) 1 := ⟨(fs_me2 198 rfl rfl), (fs_me2 199 rfl rfl), (fs_me1 1 rfl rfl), (fs_me2 200 rfl rfl), by decide +kernel, by decide +kernel, by decide +kernel⟩
theorem v_X3_changedBy : fs_yV yX3_changedBy cX3_changedBy 4 (some .int) 1 := ⟨(fs_me2 183 rfl rfl), (fs_me0 8 rfl rfl), (fs_me1 1 rfl rfl), (fs_me2 184 rfl rfl), by decide +kernel, by decide +kernel, by decide +kernel⟩
theorem v_X3_commonDivisor : fs_yS yX3_commonDivisor cX3_commonDivisor 7 (some .long) 2 := ⟨(fs_me3 40 rfl rfl), (fs_me1 1 rfl rfl), (fs_me3 41 rfl rfl), by decide +kernel, by decide +kernel, by decide +kernel⟩
theorem v_X3_copy : fs_yV yX3_copy cX3_copy 6 (some .int) 5 := ⟨(fs_me1 208 rfl rfl), (fs_me1 209 rfl rfl), (fs_me1 1 rfl rfl), (fs_me1 210 rfl rfl), by decide +kernel, by decide +kernel, by decide +kernel⟩
theorem v_X3_count : fs_yV yX3_count cX3_count 2 (some .int) 1 := ⟨(fs_me3 78 rfl rfl), (fs_me3 79 rfl rfl), (fs_me1 1 rfl rfl), (fs_me3 80 rfl rfl), by decide +kernel, by decide +kernel, by decide +kernel⟩
theorem v_X3_counted : fs_yV yX3_counted cX3_counted 3 (some .int) 1 := ⟨(fs_me3 83 rfl rfl), (fs_me0 25 rfl rfl), (fs_me1 1 rfl rfl), (fs_me3 84 rfl rfl), by decide +kernel, by decide +kernel, by decide +kernel⟩
theorem v_X3_deedByLot : fs_yV yX3_deedByLot cX3_deedByLot 4 (some .int) 1 := ⟨(fs_me3 59 rfl rfl), (fs_me0 24 rfl rfl), (fs_me1 1 rfl rfl), (fs_me3 60 rfl rfl), by decide +kernel, by decide +kernel, by decide +kernel⟩
theorem v_X3_digest : fs_yV yX3_digest cX3_digest 5 (some .long) 0 := ⟨(fs_me3 116 rfl rfl), (fs_me3 117 rfl rfl), (fs_me1 1 rfl rfl), (fs_me3 118 rfl rfl), by decide +kernel, by decide +kernel, by decide +kernel⟩
theorem v_X3_duel : fs_yV yX3_duel cX3_duel 6 (some .int) 3 := ⟨(fs_me2 239 rfl rfl), (fs_me3 0 rfl rfl), (fs_me1 1 rfl rfl), (fs_me3 1 rfl rfl), by decide +kernel, by decide +kernel, by decide +kernel⟩
theorem v_X3_duelEnd : fs_yV yX3_duelEnd cX3_duelEnd 4 (some .int) 3 := ⟨(fs_me3 4 rfl rfl), (fs_me0 18 rfl rfl), (fs_me1 1 rfl rfl), (fs_me3 5 rfl rfl), by decide +kernel, by decide +kernel, by decide +kernel⟩
theorem v_X3_duelWay : fs_yS yX3_duelWay cX3_duelWay 2 (some .int) 2 := ⟨(fs_me3 12 rfl rfl), (fs_me1 1 rfl rfl), (fs_me3 13 rfl rfl), by decide +kernel, by decide +kernel, by decide +kernel⟩
theorem v_X3_even : fs_yV yX3_even cX3_even 9 (some .int) 4 := ⟨(fs_me2 178 rfl rfl), (fs_me2 179 rfl rfl), (fs_me1 1 rfl rfl), (fs_me2 180 rfl rfl), by decide +kernel, by decide +kernel, by decide +kernel⟩
theorem v_X3_evenBy : fs_yV yX3_evenBy cX3_evenBy 6 (some .boolean) 4 := ⟨(fs_me2 191 rfl rfl), (fs_me0 10 rfl rfl), (fs_me1 1 rfl rfl), (fs_me2 192 rfl rfl), by decide +kernel, by decide +kernel, by decide +kernel⟩
theorem v_X3_fault : fs_yV yX3_fault cX3_fault 2 (some .int) 1 := ⟨(fs_me1 234 rfl rfl), (fs_me1 235 rfl rfl), (fs_me1 1 rfl rfl), (fs_me1 236 rfl rfl), by decide +kernel, by decide +kernel, by decide +kernel⟩
theorem v_X3_finding : fs_yV yX3_finding cX3_finding 1 (some .int) 0 := ⟨(fs_me3 108 rfl rfl), (fs_me3 109 rfl rfl), (fs_me1 1 rfl rfl), (fs_me3 110 rfl rfl), by decide +kernel, by decide +kernel, by decide +kernel⟩
theorem v_X3_findings : fs_yV yX3_findings cX3_findings 2 (some .int) 1 := ⟨(fs_me3 112 rfl rfl), (fs_me3 113 rfl rfl), (fs_me1 1 rfl rfl), (fs_me3 114 rfl rfl), by decide +kernel, by decide +kernel, by decide +kernel⟩
theorem v_X3_fitsPairs : fs_yV yX3_fitsPairs cX3_fitsPairs 7 (some .boolean) 4 := ⟨(fs_me2 215 rfl rfl), (fs_me0 14 rfl rfl), (fs_me1 1 rfl rfl), (fs_me2 216 rfl rfl), by decide +kernel, by decide +kernel, by decide +kernel⟩
theorem v_X3_gains : fs_yV yX3_gains cX3_gains 4 (some .int) 1 := ⟨(fs_me2 165 rfl rfl), (fs_me2 166 rfl rfl), (fs_me1 1 rfl rfl), (fs_me2 167 rfl rfl), by decide +kernel, by decide +kernel, by decide +kernel⟩
theorem v_X3_gift : fs_yV yX3_gift cX3_gift 4 (some .int) 3 := ⟨(fs_me2 110 rfl rfl), (fs_me2 111 rfl rfl), (fs_me1 1 rfl rfl), (fs_me2 112 rfl rfl), by decide +kernel, by decide +kernel, by decide +kernel⟩
theorem v_X3_givenIfChanged : fs_yV yX3_givenIfChanged cX3_givenIfChanged 4 (some .int) 3 := ⟨(fs_me2 203 rfl rfl), (fs_me0 12 rfl rfl), (fs_me1 1 rfl rfl), (fs_me2 204 rfl rfl), by decide +kernel, by decide +kernel, by decide +kernel⟩
theorem v_X3_givenUnless : fs_yV yX3_givenUnless cX3_givenUnless 4 (some .int) 1 := ⟨(fs_me3 48 rfl rfl), (fs_me0 23 rfl rfl), (fs_me1 1 rfl rfl), (fs_me3 49 rfl rfl), by decide +kernel, by decide +kernel, by decide +kernel⟩
theorem v_X3_greatestPart : fs_yV yX3_greatestPart cX3_greatestPart 6 (some .int) 3 := ⟨(fs_me2 231 rfl rfl), (fs_me0 16 rfl rfl), (fs_me1 1 rfl rfl), (fs_me2 232 rfl rfl), by decide +kernel, by decide +kernel, by decide +kernel⟩
theorem v_X3_house : fs_yV yX3_house cX3_house 2 (some .int) 1 := ⟨(fs_me2 9 rfl rfl), (fs_me2 10 rfl rfl), (fs_me1 1 rfl rfl), (fs_me2 11 rfl rfl), by decide +kernel, by decide +kernel, by decide +kernel⟩
theorem v_X3_isKept : fs_yS yX3_isKept cX3_isKept 1 (some .boolean) 1 := ⟨(fs_me2 127 rfl rfl), (fs_me1 1 rfl rfl), (fs_me2 128 rfl rfl), by decide +kernel, by decide +kernel, by decide +kernel⟩
theorem v_X3_isKin : fs_yV yX3_isKin cX3_isKin 2 (some .boolean) 1 := ⟨(fs_me2 51 rfl rfl), (fs_me0 3 rfl rfl), (fs_me1 1 rfl rfl), (fs_me2 52 rfl rfl), by decide +kernel, by decide +kernel, by decide +kernel⟩
theorem v_X3_isRow : fs_yS yX3_isRow cX3_isRow 1 (some .boolean) 1 := ⟨(fs_me1 169 rfl rfl), (fs_me1 1 rfl rfl), (fs_me1 170 rfl rfl), by decide +kernel, by decide +kernel, by decide +kernel⟩
theorem v_X3_isText : fs_yS yX3_isText cX3_isText 1 (some .boolean) 1 := ⟨(fs_me1 227 rfl rfl), (fs_me1 1 rfl rfl), (fs_me1 228 rfl rfl), by decide +kernel, by decide +kernel, by decide +kernel⟩
theorem v_X3_keep : fs_yV yX3_keep cX3_keep 2 (some .int) 1 := ⟨(fs_me2 123 rfl rfl), (fs_me2 124 rfl rfl), (fs_me1 1 rfl rfl), (fs_me2 125 rfl rfl), by decide +kernel, by decide +kernel, by decide +kernel⟩
theorem v_X3_kinds : fs_yV yX3_kinds cX3_kinds 4 (some .int) 2 := ⟨(fs_me2 218 rfl rfl), (fs_me2 219 rfl rfl), (fs_me1 1 rfl rfl), (fs_me2 220 rfl rfl), by decide +kernel, by decide +kernel, by decide +kernel⟩
theorem v_X3_kindsByPairs : fs_yV yX3_kindsByPairs cX3_kindsByPairs 5 (some .int) 2 := ⟨(fs_me2 223 rfl rfl), (fs_me0 15 rfl rfl), (fs_me1 1 rfl rfl), (fs_me2 224 rfl rfl), by decide +kernel, by decide +kernel, by decide +kernel⟩
theorem v_X3_later : fs_yV yX3_later cX3_later 5 (some .int) 2 := ⟨(fs_me2 147 rfl rfl), (fs_me2 148 rfl rfl), (fs_me1 1 rfl rfl), (fs_me2 149 rfl rfl), by decide +kernel, by decide +kernel, by decide +kernel⟩
theorem v_X3_lay : fs_yV yX3_lay cX3_lay 5 (some .int) 3 := ⟨(fs_me1 180 rfl rfl), (fs_me1 181 rfl rfl), (fs_me1 1 rfl rfl), (fs_me1 182 rfl rfl), by decide +kernel, by decide +kernel, by decide +kernel⟩
theorem v_X3_laySoot : fs_yV yX3_laySoot cX3_laySoot 4 none 2 := ⟨(fs_me2 195 rfl rfl), (fs_me0 11 rfl rfl), (fs_me1 1 rfl rfl), (fs_me2 196 rfl rfl), by decide +kernel, by decide +kernel, by decide +kernel⟩
theorem v_X3_looks : fs_yV yX3_looks cX3_looks 6 (some .int) 2 := ⟨(fs_me2 206 rfl rfl), (fs_me2 207 rfl rfl), (fs_me1 1 rfl rfl), (fs_me2 208 rfl rfl), by decide +kernel, by decide +kernel, by decide +kernel⟩
theorem v_X3_lots : fs_yV yX3_lots cX3_lots 6 (some .int) 2 := ⟨(fs_me3 51 rfl rfl), (fs_me3 52 rfl rfl), (fs_me1 1 rfl rfl), (fs_me3 53 rfl rfl), by decide +kernel, by decide +kernel, by decide +kernel⟩
theorem v_X3_lower : fs_yV yX3_lower cX3_lower 1 (some .long) 0 := ⟨(fs_me3 74 rfl rfl), (fs_me3 75 rfl rfl), (fs_me1 1 rfl rfl), (fs_me3 76 rfl rfl), by decide +kernel, by decide +kernel, by decide +kernel⟩
theorem v_X3_mark : fs_yV yX3_mark cX3_mark 4 (some .int) 2 := ⟨(fs_me2 59 rfl rfl), (fs_me2 60 rfl rfl), (fs_me1 1 rfl rfl), (fs_me2 61 rfl rfl), by decide +kernel, by decide +kernel, by decide +kernel⟩
theorem v_X3_mean : fs_yV yX3_mean cX3_mean 3 (some .int) 1 := ⟨(fs_me1 215 rfl rfl), (fs_me1 216 rfl rfl), (fs_me1 1 rfl rfl), (fs_me1 217 rfl rfl), by decide +kernel, by decide +kernel, by decide +kernel⟩
theorem v_X3_mid : fs_yV yX3_mid cX3_mid 5 (some .int) 1 := ⟨(fs_me3 43 rfl rfl), (fs_me3 44 rfl rfl), (fs_me1 1 rfl rfl), (fs_me3 45 rfl rfl), by decide +kernel, by decide +kernel, by decide +kernel⟩
theorem v_X3_mill : fs_yV yX3_mill cX3_mill 4 (some .int) 1 := ⟨(fs_me2 157 rfl rfl), (fs_me2 158 rfl rfl), (fs_me1 1 rfl rfl), (fs_me2 159 rfl rfl), by decide +kernel, by decide +kernel, by decide +kernel⟩
theorem v_X3_noKin : fs_yV yX3_noKin cX3_noKin 1 (some .boolean) 0 := ⟨(fs_me2 87 rfl rfl), (fs_me0 5 rfl rfl), (fs_me1 1 rfl rfl), (fs_me2 88 rfl rfl), by decide +kernel, by decide +kernel, by decide +kernel⟩
theorem v_X3_odds : fs_yV yX3_odds cX3_odds 7 (some .int) 3 := ⟨(fs_me3 19 rfl rfl), (fs_me3 20 rfl rfl), (fs_me1 1 rfl rfl), (fs_me3 21 rfl rfl), by decide +kernel, by decide +kernel, by decide +kernel⟩
theorem v_X3_ofOne : fs_yV yX3_ofOne cX3_ofOne 4 (some .int) 2 := ⟨(fs_me2 55 rfl rfl), (fs_me0 4 rfl rfl), (fs_me1 1 rfl rfl), (fs_me2 56 rfl rfl), by decide +kernel, by decide +kernel, by decide +kernel⟩
theorem v_X3_on : fs_yV yX3_on cX3_on 2 (some .int) 1 := ⟨(fs_me2 135 rfl rfl), (fs_me2 136 rfl rfl), (fs_me1 1 rfl rfl), (fs_me2 137 rfl rfl), by decide +kernel, by decide +kernel, by decide +kernel⟩
theorem v_X3_one : fs_yV yX3_one cX3_one 3 (some .int) 2 := ⟨(fs_me2 46 rfl rfl), (fs_me2 47 rfl rfl), (fs_me1 1 rfl rfl), (fs_me2 48 rfl rfl), by decide +kernel, by decide +kernel, by decide +kernel⟩
theorem v_X3_partLike : fs_yV yX3_partLike cX3_partLike 10 (some .int) 4 := ⟨(fs_me2 235 rfl rfl), (fs_me0 17 rfl rfl), (fs_me1 1 rfl rfl), (fs_me2 236 rfl rfl), by decide +kernel, by decide +kernel, by decide +kernel⟩
theorem v_X3_purseBehind : fs_yV yX3_purseBehind cX3_purseBehind 4 (some .int) 3 := ⟨(fs_me2 170 rfl rfl), (fs_me0 7 rfl rfl), (fs_me1 1 rfl rfl), (fs_me2 171 rfl rfl), by decide +kernel, by decide +kernel, by decide +kernel⟩
theorem v_X3_put : fs_yV yX3_put cX3_put 5 (some .int) 3 := ⟨(fs_me1 230 rfl rfl), (fs_me1 231 rfl rfl), (fs_me1 1 rfl rfl), (fs_me1 232 rfl rfl), by decide +kernel, by decide +kernel, by decide +kernel⟩
theorem v_X3_quarter : fs_yV yX3_quarter cX3_quarter 1 (some .int) 0 := ⟨(fs_me2 82 rfl rfl), (fs_me2 83 rfl rfl), (fs_me1 1 rfl rfl), (fs_me2 84 rfl rfl), by decide +kernel, by decide +kernel, by decide +kernel⟩
theorem v_X3_refuse : fs_yV yX3_refuse cX3_refuse 2 (some .int) 1 := ⟨(fs_me1 173 rfl rfl), (fs_me0 0 rfl rfl), (fs_me1 1 rfl rfl), (fs_me1 174 rfl rfl), by decide +kernel, by decide +kernel, by decide +kernel⟩
theorem v_X3_refusePairs : fs_yV yX3_refusePairs cX3_refusePairs 5 (some .int) 2 := ⟨(fs_me2 211 rfl rfl), (fs_me0 13 rfl rfl), (fs_me1 1 rfl rfl), (fs_me2 212 rfl rfl), by decide +kernel, by decide +kernel, by decide +kernel⟩
theorem v_X3_refusePlace : fs_yV yX3_refusePlace cX3_refusePlace 3 (some .int) 2 := ⟨(fs_me1 185 rfl rfl), (fs_me0 1 rfl rfl), (fs_me1 1 rfl rfl), (fs_me1 186 rfl rfl), by decide +kernel, by decide +kernel, by decide +kernel⟩
theorem v_X3_regard : fs_yV yX3_regard cX3_regard 4 (some .int) 3 := ⟨(fs_me2 77 rfl rfl), (fs_me2 78 rfl rfl), (fs_me1 1 rfl rfl), (fs_me2 79 rfl rfl), by decide +kernel, by decide +kernel, by decide +kernel⟩
theorem v_X3_row : fs_yV yX3_row cX3_row 3 (some .int) 2 := ⟨(fs_me1 165 rfl rfl), (fs_me1 166 rfl rfl), (fs_me1 1 rfl rfl), (fs_me1 167 rfl rfl), by decide +kernel, by decide +kernel, by decide +kernel⟩
theorem v_X3_settles : fs_yV yX3_settles cX3_settles 2 (some .int) 0 := ⟨(fs_me2 153 rfl rfl), (fs_me2 154 rfl rfl), (fs_me1 1 rfl rfl), (fs_me2 155 rfl rfl), by decide +kernel, by decide +kernel, by decide +kernel⟩
theorem v_X3_soot : fs_yV yX3_soot cX3_soot 2 (some .int) 1 := ⟨(fs_me2 102 rfl rfl), (fs_me2 103 rfl rfl), (fs_me1 1 rfl rfl), (fs_me2 104 rfl rfl), by decide +kernel, by decide +kernel, by decide +kernel⟩
theorem v_X3_sootBy : fs_yV yX3_sootBy cX3_sootBy 3 (some .int) 2 := ⟨(fs_me2 187 rfl rfl), (fs_me0 9 rfl rfl), (fs_me1 1 rfl rfl), (fs_me2 188 rfl rfl), by decide +kernel, by decide +kernel, by decide +kernel⟩
theorem v_X3_tear : fs_yV yX3_tear cX3_tear 2 (some .int) 1 := ⟨(fs_me1 204 rfl rfl), (fs_me1 205 rfl rfl), (fs_me1 1 rfl rfl), (fs_me1 206 rfl rfl), by decide +kernel, by decide +kernel, by decide +kernel⟩
theorem v_X3_tell : fs_yV yX3_tell cX3_tell 3 (some .int) 2 := ⟨(fs_me1 201 rfl rfl), (fs_me0 2 rfl rfl), (fs_me1 1 rfl rfl), (fs_me1 202 rfl rfl), by decide +kernel, by decide +kernel, by decide +kernel⟩
theorem v_X3_tellPart : fs_yV yX3_tellPart cX3_tellPart 7 none 1 := ⟨(fs_me3 36 rfl rfl), (fs_me0 22 rfl rfl), (fs_me1 1 rfl rfl), (fs_me3 37 rfl rfl), by decide +kernel, by decide +kernel, by decide +kernel⟩
theorem v_X3_test : fs_yV yX3_test cX3_test 9 (some .int) 2 := ⟨(fs_me2 226 rfl rfl), (fs_me2 227 rfl rfl), (fs_me1 1 rfl rfl), (fs_me2 228 rfl rfl), by decide +kernel, by decide +kernel, by decide +kernel⟩
theorem v_X3_text : fs_yV yX3_text cX3_text 3 (some .int) 2 := ⟨(fs_me1 223 rfl rfl), (fs_me1 224 rfl rfl), (fs_me1 1 rfl rfl), (fs_me1 225 rfl rfl), by decide +kernel, by decide +kernel, by decide +kernel⟩
theorem v_X3_undo : fs_yV yX3_undo cX3_undo 3 (some .int) 1 := ⟨(fs_me2 118 rfl rfl), (fs_me2 119 rfl rfl), (fs_me1 1 rfl rfl), (fs_me2 120 rfl rfl), by decide +kernel, by decide +kernel, by decide +kernel⟩
theorem v_X3_upper : fs_yV yX3_upper cX3_upper 1 (some .long) 0 := ⟨(fs_me3 70 rfl rfl), (fs_me3 71 rfl rfl), (fs_me1 1 rfl rfl), (fs_me3 72 rfl rfl), by decide +kernel, by decide +kernel, by decide +kernel⟩
theorem v_X3_wash : fs_yV yX3_wash cX3_wash 3 (some .int) 1 := ⟨(fs_me2 106 rfl rfl), (fs_me2 107 rfl rfl), (fs_me1 1 rfl rfl), (fs_me2 108 rfl rfl), by decide +kernel, by decide +kernel, by decide +kernel⟩
theorem v_X4_allWays : fs_yV yX4_allWays cX4_allWays 4 (some .long) 0 := ⟨(fs_me5 12 rfl rfl), (fs_me0 52 rfl rfl), (fs_me1 7 rfl rfl), (fs_me5 13 rfl rfl), by decide +kernel, by decide +kernel, by decide +kernel⟩
theorem v_X4_answer : fs_yV yX4_answer cX4_answer 3 (some .int) 2 := ⟨(fs_me4 154 rfl rfl), (fs_me0 41 rfl rfl), (fs_me1 7 rfl rfl), (fs_me4 155 rfl rfl), by decide +kernel, by decide +kernel, by decide +kernel⟩
theorem v_X4_asked : fs_yV yX4_asked cX4_asked 1 (some .int) 0 := ⟨(fs_me5 42 rfl rfl), (fs_me5 43 rfl rfl), (fs_me1 7 rfl rfl), (fs_me5 44 rfl rfl), by decide +kernel, by decide +kernel, by decide +kernel⟩
theorem v_X4_at : fs_yV yX4_at cX4_at 3 (some .int) 2 := ⟨(fs_me4 2 rfl rfl), (fs_me4 3 rfl rfl), (fs_me1 7 rfl rfl), (fs_me4 4 rfl rfl), by decide +kernel, by decide +kernel, by decide +kernel⟩
theorem v_X4_box : fs_yV yX4_box cX4_box 3 (some .int) 0 := ⟨(fs_me4 149 rfl rfl), (fs_me4 150 rfl rfl), (fs_me1 7 rfl rfl), (fs_me4 151 rfl rfl), by decide +kernel, by decide +kernel, by decide +kernel⟩
theorem v_X4_change : fs_yV yX4_change cX4_change 7 (some .int) 1 := ⟨(fs_me4 198 rfl rfl), (fs_me4 199 rfl rfl), (fs_me1 7 rfl rfl), (fs_me4 200 rfl rfl), by decide +kernel, by decide +kernel, by decide +kernel⟩
theorem v_X4_changes : fs_yV yX4_changes cX4_changes 4 none 2 := ⟨(fs_me4 203 rfl rfl), (fs_me0 46 rfl rfl), (fs_me1 7 rfl rfl), (fs_me4 204 rfl rfl), by decide +kernel, by decide +kernel, by decide +kernel⟩
theorem v_X4_copies : fs_yS yX4_copies cX4_copies 6 none 5 := ⟨(fs_me4 113 rfl rfl), (fs_me1 7 rfl rfl), (fs_me4 114 rfl rfl), by decide +kernel, by decide +kernel, by decide +kernel⟩
theorem v_X4_copy : fs_yV yX4_copy cX4_copy 8 (some .int) 5 := ⟨(fs_me4 10 rfl rfl), (fs_me4 11 rfl rfl), (fs_me1 7 rfl rfl), (fs_me4 12 rfl rfl), by decide +kernel, by decide +kernel, by decide +kernel⟩
theorem v_X4_count : fs_yV yX4_count cX4_count 2 (some .int) 1 := ⟨(fs_me5 54 rfl rfl), (fs_me5 55 rfl rfl), (fs_me1 7 rfl rfl), (fs_me5 56 rfl rfl), by decide +kernel, by decide +kernel, by decide +kernel⟩
theorem v_X4_digest : fs_yV yX4_digest cX4_digest 5 (some .long) 0 := ⟨(fs_me5 77 rfl rfl), (fs_me5 78 rfl rfl), (fs_me1 7 rfl rfl), (fs_me5 79 rfl rfl), by decide +kernel, by decide +kernel, by decide +kernel⟩
theorem v_X4_duel : fs_yV yX4_duel cX4_duel 6 (some .int) 3 := ⟨(fs_me4 234 rfl rfl), (fs_me4 235 rfl rfl), (fs_me1 7 rfl rfl), (fs_me4 236 rfl rfl), by decide +kernel, by decide +kernel, by decide +kernel⟩
theorem v_X4_even : fs_yV yX4_even cX4_even 11 (some .int) 4 := ⟨(fs_me4 187 rfl rfl), (fs_me4 188 rfl rfl), (fs_me1 7 rfl rfl), (fs_me4 189 rfl rfl), by decide +kernel, by decide +kernel, by decide +kernel⟩
theorem v_X4_fault : fs_yV yX4_fault cX4_fault 2 (some .int) 1 := ⟨(fs_me4 30 rfl rfl), (fs_me4 31 rfl rfl), (fs_me1 7 rfl rfl), (fs_me4 32 rfl rfl), by decide +kernel, by decide +kernel, by decide +kernel⟩
theorem v_X4_finding : fs_yV yX4_finding cX4_finding 1 (some .int) 0 := ⟨(fs_me5 69 rfl rfl), (fs_me5 70 rfl rfl), (fs_me1 7 rfl rfl), (fs_me5 71 rfl rfl), by decide +kernel, by decide +kernel, by decide +kernel⟩
theorem v_X4_findings : fs_yV yX4_findings cX4_findings 2 (some .int) 1 := ⟨(fs_me5 73 rfl rfl), (fs_me5 74 rfl rfl), (fs_me1 7 rfl rfl), (fs_me5 75 rfl rfl), by decide +kernel, by decide +kernel, by decide +kernel⟩
theorem v_X4_forgets : fs_yV yX4_forgets cX4_forgets 2 none 0 := ⟨(fs_me3 134 rfl rfl), (fs_me0 26 rfl rfl), (fs_me1 7 rfl rfl), (fs_me3 135 rfl rfl), by decide +kernel, by decide +kernel, by decide +kernel⟩
theorem v_X4_found : fs_yV yX4_found cX4_found 2 (some .int) 1 := ⟨(fs_me3 231 rfl rfl), (fs_me0 27 rfl rfl), (fs_me1 7 rfl rfl), (fs_me3 232 rfl rfl), by decide +kernel, by decide +kernel, by decide +kernel⟩
theorem v_X4_fraction : fs_yV yX4_fraction cX4_fraction 11 (some .int) 2 := ⟨(fs_me5 16 rfl rfl), (fs_me0 53 rfl rfl), (fs_me1 7 rfl rfl), (fs_me5 17 rfl rfl), by decide +kernel, by decide +kernel, by decide +kernel⟩
theorem v_X4_gains : fs_yV yX4_gains cX4_gains 5 (some .int) 1 := ⟨(fs_me4 174 rfl rfl), (fs_me4 175 rfl rfl), (fs_me1 7 rfl rfl), (fs_me4 176 rfl rfl), by decide +kernel, by decide +kernel, by decide +kernel⟩
theorem v_X4_gift : fs_yV yX4_gift cX4_gift 4 (some .int) 3 := ⟨(fs_me4 132 rfl rfl), (fs_me4 133 rfl rfl), (fs_me1 7 rfl rfl), (fs_me4 134 rfl rfl), by decide +kernel, by decide +kernel, by decide +kernel⟩
theorem v_X4_gives : fs_yV yX4_gives cX4_gives 4 (some .int) 1 := ⟨(fs_me4 121 rfl rfl), (fs_me0 40 rfl rfl), (fs_me1 7 rfl rfl), (fs_me4 122 rfl rfl), by decide +kernel, by decide +kernel, by decide +kernel⟩
theorem v_X4_givesIn : fs_yV yX4_givesIn cX4_givesIn 4 (some .int) 1 := ⟨(fs_me4 184 rfl rfl), (fs_me0 44 rfl rfl), (fs_me1 7 rfl rfl), (fs_me4 185 rfl rfl), by decide +kernel, by decide +kernel, by decide +kernel⟩
theorem v_X4_goes : fs_yV yX4_goes cX4_goes 4 (some .int) 1 := ⟨(fs_me4 117 rfl rfl), (fs_me0 39 rfl rfl), (fs_me1 7 rfl rfl), (fs_me4 118 rfl rfl), by decide +kernel, by decide +kernel, by decide +kernel⟩
theorem v_X4_greater : fs_yS yX4_greater cX4_greater 2 (some .int) 2 := ⟨(fs_me4 79 rfl rfl), (fs_me1 7 rfl rfl), (fs_me4 80 rfl rfl), by decide +kernel, by decide +kernel, by decide +kernel⟩
theorem v_X4_has : fs_yS yX4_has cX4_has 2 (some .boolean) 2 := ⟨(fs_me4 231 rfl rfl), (fs_me1 7 rfl rfl), (fs_me4 232 rfl rfl), by decide +kernel, by decide +kernel, by decide +kernel⟩
theorem v_X4_here : fs_yV yX4_here cX4_here 1 (some .int) 0 := ⟨(fs_me4 43 rfl rfl), (fs_me0 31 rfl rfl), (fs_me1 7 rfl rfl), (fs_me4 44 rfl rfl), by decide +kernel, by decide +kernel, by decide +kernel⟩
theorem v_X4_house : fs_yV yX4_house cX4_house 3 (some .int) 1 := ⟨(fs_me4 59 rfl rfl), (fs_me4 60 rfl rfl), (fs_me1 7 rfl rfl), (fs_me4 61 rfl rfl), by decide +kernel, by decide +kernel, by decide +kernel⟩
theorem v_X4_in : fs_yS yX4_in cX4_in 6 (some .boolean) 3 := ⟨(fs_me3 227 rfl rfl), (fs_me1 7 rfl rfl), (fs_me3 228 rfl rfl), by decide +kernel, by decide +kernel, by decide +kernel⟩
theorem v_X4_isFigure : fs_yV yX4_isFigure cX4_isFigure 1 (some .boolean) 0 := ⟨(fs_me4 54 rfl rfl), (fs_me0 33 rfl rfl), (fs_me1 7 rfl rfl), (fs_me4 55 rfl rfl), by decide +kernel, by decide +kernel, by decide +kernel⟩
theorem v_X4_isOf : fs_yS yX4_isOf cX4_isOf 2 (some .boolean) 2 := ⟨(fs_me4 97 rfl rfl), (fs_me1 7 rfl rfl), (fs_me4 98 rfl rfl), by decide +kernel, by decide +kernel, by decide +kernel⟩
theorem v_X4_isOne : fs_yV yX4_isOne cX4_isOne 2 (some .boolean) 1 := ⟨(fs_me4 68 rfl rfl), (fs_me0 34 rfl rfl), (fs_me1 7 rfl rfl), (fs_me4 69 rfl rfl), by decide +kernel, by decide +kernel, by decide +kernel⟩
theorem v_X4_isRow : fs_yS yX4_isRow cX4_isRow 1 (some .boolean) 1 := ⟨(fs_me3 223 rfl rfl), (fs_me1 7 rfl rfl), (fs_me3 224 rfl rfl), by decide +kernel, by decide +kernel, by decide +kernel⟩
theorem v_X4_isSo : fs_yV yX4_isSo cX4_isSo 7 (some .boolean) 4 := ⟨(fs_me4 216 rfl rfl), (fs_me0 48 rfl rfl), (fs_me1 7 rfl rfl), (fs_me4 217 rfl rfl), by decide +kernel, by decide +kernel, by decide +kernel⟩
theorem v_X4_isText : fs_yS yX4_isText cX4_isText 1 (some .boolean) 1 := ⟨(fs_me4 22 rfl rfl), (fs_me1 7 rfl rfl), (fs_me4 23 rfl rfl), by decide +kernel, by decide +kernel, by decide +kernel⟩
theorem v_X4_keep : fs_yV yX4_keep cX4_keep 2 (some .int) 1 := ⟨(fs_me4 140 rfl rfl), (fs_me4 141 rfl rfl), (fs_me1 7 rfl rfl), (fs_me4 142 rfl rfl), by decide +kernel, by decide +kernel, by decide +kernel⟩
theorem v_X4_kindOf : fs_yS yX4_kindOf cX4_kindOf 1 (some .int) 1 := ⟨(fs_me4 50 rfl rfl), (fs_me1 7 rfl rfl), (fs_me4 51 rfl rfl), by decide +kernel, by decide +kernel, by decide +kernel⟩
theorem v_X4_kinds : fs_yV yX4_kinds cX4_kinds 4 (some .int) 2 := ⟨(fs_me4 219 rfl rfl), (fs_me4 220 rfl rfl), (fs_me1 7 rfl rfl), (fs_me4 221 rfl rfl), by decide +kernel, by decide +kernel, by decide +kernel⟩
theorem v_X4_kindsOf : fs_yV yX4_kindsOf cX4_kindsOf 5 (some .int) 2 := ⟨(fs_me4 224 rfl rfl), (fs_me0 49 rfl rfl), (fs_me1 7 rfl rfl), (fs_me4 225 rfl rfl), by decide +kernel, by decide +kernel, by decide +kernel⟩
theorem v_X4_later : fs_yV yX4_later cX4_later 7 (some .int) 2 := ⟨(fs_me4 157 rfl rfl), (fs_me4 158 rfl rfl), (fs_me1 7 rfl rfl), (fs_me4 159 rfl rfl), by decide +kernel, by decide +kernel, by decide +kernel⟩
theorem v_X4_lay : fs_yV yX4_lay cX4_lay 5 (some .int) 3 := ⟨(fs_me3 234 rfl rfl), (fs_me3 235 rfl rfl), (fs_me1 7 rfl rfl), (fs_me3 236 rfl rfl), by decide +kernel, by decide +kernel, by decide +kernel⟩
theorem v_X4_layAside : fs_yV yX4_layAside cX4_layAside 1 none 0 := ⟨(fs_me4 163 rfl rfl), (fs_me0 42 rfl rfl), (fs_me1 7 rfl rfl), (fs_me4 164 rfl rfl), by decide +kernel, by decide +kernel, by decide +kernel⟩
theorem v_X4_laysRegards : fs_yV yX4_laysRegards cX4_laysRegards 4 (some .int) 1 := ⟨(fs_me4 90 rfl rfl), (fs_me0 37 rfl rfl), (fs_me1 7 rfl rfl), (fs_me4 91 rfl rfl), by decide +kernel, by decide +kernel, by decide +kernel⟩
theorem v_X4_laysSoot : fs_yV yX4_laysSoot cX4_laysSoot 5 (some .int) 1 := ⟨(fs_me4 194 rfl rfl), (fs_me0 45 rfl rfl), (fs_me1 7 rfl rfl), (fs_me4 195 rfl rfl), by decide +kernel, by decide +kernel, by decide +kernel⟩
theorem v_X4_lesser : fs_yS yX4_lesser cX4_lesser 2 (some .int) 2 := ⟨(fs_me4 82 rfl rfl), (fs_me1 7 rfl rfl), (fs_me4 83 rfl rfl), by decide +kernel, by decide +kernel, by decide +kernel⟩
theorem v_X4_looks : fs_yV yX4_looks cX4_looks 6 (some .int) 2 := ⟨(fs_me4 206 rfl rfl), (fs_me4 207 rfl rfl), (fs_me1 7 rfl rfl), (fs_me4 208 rfl rfl), by decide +kernel, by decide +kernel, by decide +kernel⟩
theorem v_X4_lot : fs_yV yX4_lot cX4_lot 4 none 1 := ⟨(fs_me5 35 rfl rfl), (fs_me0 55 rfl rfl), (fs_me1 7 rfl rfl), (fs_me5 36 rfl rfl), by decide +kernel, by decide +kernel, by decide +kernel⟩
theorem v_X4_lots : fs_yV yX4_lots cX4_lots 7 (some .int) 2 := ⟨(fs_me5 23 rfl rfl), (fs_me5 24 rfl rfl), (fs_me1 7 rfl rfl), (fs_me5 25 rfl rfl), by decide +kernel, by decide +kernel, by decide +kernel⟩
theorem v_X4_lower : fs_yV yX4_lower cX4_lower 1 (some .long) 0 := ⟨(fs_me5 50 rfl rfl), (fs_me5 51 rfl rfl), (fs_me1 7 rfl rfl), (fs_me5 52 rfl rfl), by decide +kernel, by decide +kernel, by decide +kernel⟩
theorem v_X4_mark : fs_yV yX4_mark cX4_mark 5 (some .int) 2 := ⟨(fs_me4 93 rfl rfl), (fs_me4 94 rfl rfl), (fs_me1 7 rfl rfl), (fs_me4 95 rfl rfl), by decide +kernel, by decide +kernel, by decide +kernel⟩
theorem v_X4_mean : fs_yV yX4_mean cX4_mean 5 (some .int) 1 := ⟨(fs_me4 14 rfl rfl), (fs_me4 15 rfl rfl), (fs_me1 7 rfl rfl), (fs_me4 16 rfl rfl), by decide +kernel, by decide +kernel, by decide +kernel⟩
theorem v_X4_mid : fs_yV yX4_mid cX4_mid 2 (some .int) 1 := ⟨(fs_me5 19 rfl rfl), (fs_me5 20 rfl rfl), (fs_me1 7 rfl rfl), (fs_me5 21 rfl rfl), by decide +kernel, by decide +kernel, by decide +kernel⟩
theorem v_X4_mill : fs_yV yX4_mill cX4_mill 4 (some .int) 1 := ⟨(fs_me4 170 rfl rfl), (fs_me4 171 rfl rfl), (fs_me1 7 rfl rfl), (fs_me4 172 rfl rfl), by decide +kernel, by decide +kernel, by decide +kernel⟩
theorem v_X4_odds : fs_yV yX4_odds cX4_odds 4 (some .int) 3 := ⟨(fs_me5 2 rfl rfl), (fs_me5 3 rfl rfl), (fs_me1 7 rfl rfl), (fs_me5 4 rfl rfl), by decide +kernel, by decide +kernel, by decide +kernel⟩
theorem v_X4_ofKind : fs_yV yX4_ofKind cX4_ofKind 4 (some .int) 1 := ⟨(fs_me5 66 rfl rfl), (fs_me0 58 rfl rfl), (fs_me1 7 rfl rfl), (fs_me5 67 rfl rfl), by decide +kernel, by decide +kernel, by decide +kernel⟩
theorem v_X4_on : fs_yV yX4_on cX4_on 2 (some .int) 1 := ⟨(fs_me4 145 rfl rfl), (fs_me4 146 rfl rfl), (fs_me1 7 rfl rfl), (fs_me4 147 rfl rfl), by decide +kernel, by decide +kernel, by decide +kernel⟩
theorem v_X4_one : fs_yV yX4_one cX4_one 3 (some .int) 2 := ⟨(fs_me4 63 rfl rfl), (fs_me4 64 rfl rfl), (fs_me1 7 rfl rfl), (fs_me4 65 rfl rfl), by decide +kernel, by decide +kernel, by decide +kernel⟩
theorem v_X4_paid : fs_yV yX4_paid cX4_paid 3 (some .int) 1 := ⟨(fs_me4 86 rfl rfl), (fs_me0 36 rfl rfl), (fs_me1 7 rfl rfl), (fs_me4 87 rfl rfl), by decide +kernel, by decide +kernel, by decide +kernel⟩
theorem v_X4_purseBehind : fs_yV yX4_purseBehind cX4_purseBehind 4 (some .int) 2 := ⟨(fs_me4 180 rfl rfl), (fs_me0 43 rfl rfl), (fs_me1 7 rfl rfl), (fs_me4 181 rfl rfl), by decide +kernel, by decide +kernel, by decide +kernel⟩
theorem v_X4_purses : fs_yV yX4_purses cX4_purses 3 (some .int) 0 := ⟨(fs_me5 39 rfl rfl), (fs_me0 56 rfl rfl), (fs_me1 7 rfl rfl), (fs_me5 40 rfl rfl), by decide +kernel, by decide +kernel, by decide +kernel⟩
theorem v_X4_put : fs_yV yX4_put cX4_put 5 (some .int) 3 := ⟨(fs_me4 26 rfl rfl), (fs_me4 27 rfl rfl), (fs_me1 7 rfl rfl), (fs_me4 28 rfl rfl), by decide +kernel, by decide +kernel, by decide +kernel⟩
theorem v_X4_quarter : fs_yV yX4_quarter cX4_quarter 1 (some .int) 0 := ⟨(fs_me4 105 rfl rfl), (fs_me4 106 rfl rfl), (fs_me1 7 rfl rfl), (fs_me4 107 rfl rfl), by decide +kernel, by decide +kernel, by decide +kernel⟩
theorem v_X4_reads : fs_yV yX4_reads cX4_reads 3 (some .int) 1 := ⟨(fs_me4 35 rfl rfl), (fs_me0 29 rfl rfl), (fs_me1 7 rfl rfl), (fs_me4 36 rfl rfl), by decide +kernel, by decide +kernel, by decide +kernel⟩
theorem v_X4_readsOne : fs_yV yX4_readsOne cX4_readsOne 3 (some .boolean) 0 := ⟨(fs_me4 47 rfl rfl), (fs_me0 32 rfl rfl), (fs_me1 7 rfl rfl), (fs_me4 48 rfl rfl), by decide +kernel, by decide +kernel, by decide +kernel⟩
theorem v_X4_refuses : fs_yV yX4_refuses cX4_refuses 2 (some .int) 1 := ⟨(fs_me5 29 rfl rfl), (fs_me0 54 rfl rfl), (fs_me1 7 rfl rfl), (fs_me5 30 rfl rfl), by decide +kernel, by decide +kernel, by decide +kernel⟩
theorem v_X4_refusesPairs : fs_yV yX4_refusesPairs cX4_refusesPairs 3 (some .int) 1 := ⟨(fs_me4 211 rfl rfl), (fs_me0 47 rfl rfl), (fs_me1 7 rfl rfl), (fs_me4 212 rfl rfl), by decide +kernel, by decide +kernel, by decide +kernel⟩
theorem v_X4_regard : fs_yV yX4_regard cX4_regard 4 (some .int) 3 := ⟨(fs_me4 100 rfl rfl), (fs_me4 101 rfl rfl), (fs_me1 7 rfl rfl), (fs_me4 102 rfl rfl), by decide +kernel, by decide +kernel, by decide +kernel⟩
theorem v_X4_regardAs : fs_yV yX4_regardAs cX4_regardAs 3 (some .int) 2 := ⟨(fs_me4 73 rfl rfl), (fs_me0 35 rfl rfl), (fs_me1 7 rfl rfl), (fs_me4 74 rfl rfl), by decide +kernel, by decide +kernel, by decide +kernel⟩
theorem v_X4_regardBy : fs_yS yX4_regardBy cX4_regardBy 7 (some .int) 4 := ⟨(fs_me4 76 rfl rfl), (fs_me1 7 rfl rfl), (fs_me4 77 rfl rfl), by decide +kernel, by decide +kernel, by decide +kernel⟩
theorem v_X4_remember : fs_yV yX4_remember cX4_remember 1 none 0 := ⟨(fs_me4 110 rfl rfl), (fs_me0 38 rfl rfl), (fs_me1 7 rfl rfl), (fs_me4 111 rfl rfl), by decide +kernel, by decide +kernel, by decide +kernel⟩
theorem v_X4_row : fs_yV yX4_row cX4_row 4 (some .int) 2 := ⟨(fs_me3 219 rfl rfl), (fs_me3 220 rfl rfl), (fs_me1 7 rfl rfl), (fs_me3 221 rfl rfl), by decide +kernel, by decide +kernel, by decide +kernel⟩
theorem v_X4_settles : fs_yV yX4_settles cX4_settles 6 (some .int) 0 := ⟨(fs_me4 166 rfl rfl), (fs_me4 167 rfl rfl), (fs_me1 7 rfl rfl), (fs_me4 168 rfl rfl), by decide +kernel, by decide +kernel, by decide +kernel⟩
theorem v_X4_skips : fs_yV yX4_skips cX4_skips 1 none 0 := ⟨(fs_me4 39 rfl rfl), (fs_me0 30 rfl rfl), (fs_me1 7 rfl rfl), (fs_me4 40 rfl rfl), by decide +kernel, by decide +kernel, by decide +kernel⟩
theorem v_X4_soot : fs_yV yX4_soot cX4_soot 2 (some .int) 1 := ⟨(fs_me4 124 rfl rfl), (fs_me4 125 rfl rfl), (fs_me1 7 rfl rfl), (fs_me4 126 rfl rfl), by decide +kernel, by decide +kernel, by decide +kernel⟩
theorem v_X4_sooted : fs_yV yX4_sooted cX4_sooted 3 (some .int) 0 := ⟨(fs_me5 59 rfl rfl), (fs_me0 57 rfl rfl), (fs_me1 7 rfl rfl), (fs_me5 60 rfl rfl), by decide +kernel, by decide +kernel, by decide +kernel⟩
theorem v_X4_tear : fs_yV yX4_tear cX4_tear 2 (some .int) 1 := ⟨(fs_me4 6 rfl rfl), (fs_me4 7 rfl rfl), (fs_me1 7 rfl rfl), (fs_me4 8 rfl rfl), by decide +kernel, by decide +kernel, by decide +kernel⟩
theorem v_X4_tell : fs_yV yX4_tell cX4_tell 2 (some .int) 1 := ⟨(fs_me3 239 rfl rfl), (fs_me0 28 rfl rfl), (fs_me1 7 rfl rfl), (fs_me4 0 rfl rfl), by decide +kernel, by decide +kernel, by decide +kernel⟩
theorem v_X4_test : fs_yV yX4_test cX4_test 13 (some .int) 2 := ⟨(fs_me4 227 rfl rfl), (fs_me4 228 rfl rfl), (fs_me1 7 rfl rfl), (fs_me4 229 rfl rfl), by decide +kernel, by decide +kernel, by decide +kernel⟩
theorem v_X4_text : fs_yV yX4_text cX4_text 4 (some .int) 2 := ⟨(fs_me4 18 rfl rfl), (fs_me4 19 rfl rfl), (fs_me1 7 rfl rfl), (fs_me4 20 rfl rfl), by decide +kernel, by decide +kernel, by decide +kernel⟩
theorem v_X4_there : fs_yS yX4_there cX4_there 5 (some .int) 3 := ⟨(fs_me5 62 rfl rfl), (fs_me1 7 rfl rfl), (fs_me5 63 rfl rfl), by decide +kernel, by decide +kernel, by decide +kernel⟩
theorem v_X4_undo : fs_yV yX4_undo cX4_undo 3 (some .int) 1 := ⟨(fs_me4 136 rfl rfl), (fs_me4 137 rfl rfl), (fs_me1 7 rfl rfl), (fs_me4 138 rfl rfl), by decide +kernel, by decide +kernel, by decide +kernel⟩
theorem v_X4_upper : fs_yV yX4_upper cX4_upper 1 (some .long) 0 := ⟨(fs_me5 46 rfl rfl), (fs_me5 47 rfl rfl), (fs_me1 7 rfl rfl), (fs_me5 48 rfl rfl), by decide +kernel, by decide +kernel, by decide +kernel⟩
theorem v_X4_wash : fs_yV yX4_wash cX4_wash 3 (some .int) 1 := ⟨(fs_me4 128 rfl rfl), (fs_me4 129 rfl rfl), (fs_me1 7 rfl rfl), (fs_me4 130 rfl rfl), by decide +kernel, by decide +kernel, by decide +kernel⟩
theorem v_X4_ways : fs_yV yX4_ways cX4_ways 11 (some .long) 3 := ⟨(fs_me5 8 rfl rfl), (fs_me0 51 rfl rfl), (fs_me1 7 rfl rfl), (fs_me5 9 rfl rfl), by decide +kernel, by decide +kernel, by decide +kernel⟩
theorem v_X4_weighs : fs_yV yX4_weighs cX4_weighs 9 (some .int) 2 := ⟨(fs_me4 239 rfl rfl), (fs_me0 50 rfl rfl), (fs_me1 7 rfl rfl), (fs_me5 0 rfl rfl), by decide +kernel, by decide +kernel, by decide +kernel⟩
theorem q_X2_40 : Cond.constantLong RX2 40 (31) ∈ fs_ws := (fs_me3 125 rfl rfl)
theorem q_X3_271 : Cond.constantLong RX3 271 (48271) ∈ fs_ws := (fs_me3 55 rfl rfl)
theorem q_X3_273 : Cond.constantLong RX3 273 (2147483647) ∈ fs_ws := (fs_me3 56 rfl rfl)
theorem q_X3_285 : Cond.constantLong RX3 285 (17) ∈ fs_ws := (fs_me3 119 rfl rfl)
theorem q_X3_287 : Cond.constantLong RX3 287 (31) ∈ fs_ws := (fs_me3 120 rfl rfl)
theorem q_X3_293 : Cond.constantLong RX3 293 (12) ∈ fs_ws := (fs_me3 38 rfl rfl)
theorem q_X4_110 : Cond.constantLong RX4 110 (48) ∈ fs_ws := (fs_me4 56 rfl rfl)
theorem q_X4_112 : Cond.constantLong RX4 112 (57) ∈ fs_ws := (fs_me4 57 rfl rfl)
theorem q_X4_160 : Cond.constantLong RX4 160 (6) ∈ fs_ws := (fs_me4 70 rfl rfl)
theorem q_X4_172 : Cond.constantLong RX4 172 (99) ∈ fs_ws := (fs_me4 103 rfl rfl)
theorem q_X4_184 : Cond.constantLong RX4 184 (2) ∈ fs_ws := (fs_me4 143 rfl rfl)
theorem q_X4_189 : Cond.constantLong RX4 189 (60) ∈ fs_ws := (fs_me4 160 rfl rfl)
theorem q_X4_197 : Cond.constantLong RX4 197 (40) ∈ fs_ws := (fs_me4 177 rfl rfl)
theorem q_X4_202 : Cond.constantLong RX4 202 (20) ∈ fs_ws := (fs_me4 190 rfl rfl)
theorem q_X4_215 : Cond.constantLong RX4 215 (30) ∈ fs_ws := (fs_me4 213 rfl rfl)
theorem q_X4_237 : Cond.constantLong RX4 237 (12) ∈ fs_ws := (fs_me5 5 rfl rfl)
theorem q_X4_251 : Cond.constantLong RX4 251 (2147483646) ∈ fs_ws := (fs_me5 26 rfl rfl)
theorem q_X4_256 : Cond.constantLong RX4 256 (48271) ∈ fs_ws := (fs_me5 31 rfl rfl)
theorem q_X4_258 : Cond.constantLong RX4 258 (2147483647) ∈ fs_ws := (fs_me5 32 rfl rfl)
theorem q_X4_277 : Cond.constantLong RX4 277 (17) ∈ fs_ws := (fs_me5 80 rfl rfl)
theorem q_X4_279 : Cond.constantLong RX4 279 (31) ∈ fs_ws := (fs_me5 81 rfl rfl)
theorem q_X4_72 : Cond.constantLong RX4 72 (5) ∈ fs_ws := (fs_me3 225 rfl rfl)
theorem q_X4_78 : Cond.constantLong RX4 78 (3) ∈ fs_ws := (fs_me4 24 rfl rfl)
theorem q_X3_270 : Cond.constant RX3 270 (2147483647) ∈ fs_ws := (fs_me3 54 rfl rfl)
theorem q_X4_204 : Cond.constant RX4 204 (1000000) ∈ fs_ws := (fs_me4 191 rfl rfl)
end
section
-- X1_take
def F_X1_take (o : Nat) (o1 : Nat) (σ : fsS) : Option (fsS) := fs_g (fs_cp (7 * o1 - 14 + 0) (7 * o - 14 + 0) (0 : Int32) (0 : Int32) (6 : Int32)) (fs_g (fs_cp (7 * o1 - 14 + 1) (7 * o - 14 + 1) (0 : Int32) (0 : Int32) (6 : Int32)) (fs_g (fs_cp (7 * o1 - 14 + 2) (7 * o - 14 + 2) (0 : Int32) (0 : Int32) (6 : Int32)) (fs_g (fs_cp (7 * o1 - 14 + 3) (7 * o - 14 + 3) (0 : Int32) (0 : Int32) (6 : Int32)) (fs_g (fs_cp (7 * o1 - 14 + 4) (7 * o - 14 + 4) (0 : Int32) (0 : Int32) (6 : Int32)) (some (fs_cy (fs_cy (fs_cy (fs_cy (fs_cy (fs_u σ o 0 (σ o1 0)) (7 * o1 - 14 + 0) (7 * o - 14 + 0) (0 : Int32) (0 : Int32) (6 : Int32)) (7 * o1 - 14 + 1) (7 * o - 14 + 1) (0 : Int32) (0 : Int32) (6 : Int32)) (7 * o1 - 14 + 2) (7 * o - 14 + 2) (0 : Int32) (0 : Int32) (6 : Int32)) (7 * o1 - 14 + 3) (7 * o - 14 + 3) (0 : Int32) (0 : Int32) (6 : Int32)) (7 * o1 - 14 + 4) (7 * o - 14 + 4) (0 : Int32) (0 : Int32) (6 : Int32)))))))
set_option maxRecDepth 20000 in
set_option maxHeartbeats 4000000 in
theorem m_X1_take (o : Nat) (o1 : Nat) (ho : fs_K o) (ho1 : fs_K o1) (σ : fsS) (μ : fsL) (out : fsS) (h : F_X1_take o o1 σ = some out) : fs_Met yX1_take cX1_take 2 none { frames := 1, cells := 0, slots := 0, locals := 26 } [.ref o, .ref o1] σ μ none out μ := by
  unfold F_X1_take at h
  refine fs_intro (by decide +kernel) (Nat.le_of_ble_eq_true rfl) (fun X hX hR => ?_)
  show fs_PW X 0 [some (.ref o), some (.ref o1)] [] σ μ
  refine s_aload_n hX dX1_take_0 rfl ?_
  refine s_aload_n hX dX1_take_1 rfl ?_
  refine s_geti hX dX1_take_2 f_X1_9 (fs_kd0 ho1) ?_
  refine s_puti hX dX1_take_5 p_X1_9 (fs_kd0 ho) ?_
  refine s_aload_n hX dX1_take_8 rfl ?_
  refine s_getr hX dX1_take_9 f_X1_15 (fs_kd1 ho1) ?_
  refine s_ic hX (0 : Int32) dX1_take_12 (by decide) ?_
  refine s_aload_n hX dX1_take_13 rfl ?_
  refine s_getr hX dX1_take_14 f_X1_15 (fs_kd1 ho) ?_
  refine s_ic hX (0 : Int32) dX1_take_17 (by decide) ?_
  refine s_bi hX (6 : Int32) dX1_take_18 (by decide) ?_
  obtain ⟨g1, h⟩ := fs_gd h
  refine s_ac hX dX1_take_20 k_X1_43 g1 rfl (Nat.le_of_ble_eq_true rfl) (Nat.le_of_ble_eq_true rfl) ?_
  refine s_aload_n hX dX1_take_23 rfl ?_
  refine s_getr hX dX1_take_24 f_X1_19 (fs_kd2 ho1) ?_
  refine s_ic hX (0 : Int32) dX1_take_27 (by decide) ?_
  refine s_aload_n hX dX1_take_28 rfl ?_
  refine s_getr hX dX1_take_29 f_X1_19 (fs_kd2 ho) ?_
  refine s_ic hX (0 : Int32) dX1_take_32 (by decide) ?_
  refine s_bi hX (6 : Int32) dX1_take_33 (by decide) ?_
  obtain ⟨g2, h⟩ := fs_gd h
  refine s_ac hX dX1_take_35 k_X1_43 g2 rfl (Nat.le_of_ble_eq_true rfl) (Nat.le_of_ble_eq_true rfl) ?_
  refine s_aload_n hX dX1_take_38 rfl ?_
  refine s_getr hX dX1_take_39 f_X1_22 (fs_kd3 ho1) ?_
  refine s_ic hX (0 : Int32) dX1_take_42 (by decide) ?_
  refine s_aload_n hX dX1_take_43 rfl ?_
  refine s_getr hX dX1_take_44 f_X1_22 (fs_kd3 ho) ?_
  refine s_ic hX (0 : Int32) dX1_take_47 (by decide) ?_
  refine s_bi hX (6 : Int32) dX1_take_48 (by decide) ?_
  obtain ⟨g3, h⟩ := fs_gd h
  refine s_ac hX dX1_take_50 k_X1_43 g3 rfl (Nat.le_of_ble_eq_true rfl) (Nat.le_of_ble_eq_true rfl) ?_
  refine s_aload_n hX dX1_take_53 rfl ?_
  refine s_getr hX dX1_take_54 f_X1_25 (fs_kd4 ho1) ?_
  refine s_ic hX (0 : Int32) dX1_take_57 (by decide) ?_
  refine s_aload_n hX dX1_take_58 rfl ?_
  refine s_getr hX dX1_take_59 f_X1_25 (fs_kd4 ho) ?_
  refine s_ic hX (0 : Int32) dX1_take_62 (by decide) ?_
  refine s_bi hX (6 : Int32) dX1_take_63 (by decide) ?_
  obtain ⟨g4, h⟩ := fs_gd h
  refine s_ac hX dX1_take_65 k_X1_43 g4 rfl (Nat.le_of_ble_eq_true rfl) (Nat.le_of_ble_eq_true rfl) ?_
  refine s_aload_n hX dX1_take_68 rfl ?_
  refine s_getr hX dX1_take_69 f_X1_28 (fs_kd5 ho1) ?_
  refine s_ic hX (0 : Int32) dX1_take_72 (by decide) ?_
  refine s_aload_n hX dX1_take_73 rfl ?_
  refine s_getr hX dX1_take_74 f_X1_28 (fs_kd5 ho) ?_
  refine s_ic hX (0 : Int32) dX1_take_77 (by decide) ?_
  refine s_bi hX (6 : Int32) dX1_take_78 (by decide) ?_
  obtain ⟨g5, h⟩ := fs_gd h
  refine s_ac hX dX1_take_80 k_X1_43 g5 rfl (Nat.le_of_ble_eq_true rfl) (Nat.le_of_ble_eq_true rfl) ?_
  cases h
  exact s_vret hX hR dX1_take_83

-- X1_regardOf
def F_X1_regardOf (x0 : Int32) (x1 : Int32) (x2 : Int32) (x3 : Int32) : Int32 := if x1 ≤ ((2 : Int32) * x2) then if x3 < (20 : Int32) then if (10 : Int32) ≤ x3 then if x0 = (1 : Int32) then (0 : Int32) else if x0 = (2 : Int32) then ((0 : Int32) + (x3 / (10 : Int32))) else if x0 = (3 : Int32) then (0 : Int32) else if x0 = (4 : Int32) then ((2 : Int32) * (0 : Int32)) else if x0 = (5 : Int32) then ((0 : Int32) / (2 : Int32)) else (0 : Int32) else if (0 : Int32) ≤ 0 then if x0 = (1 : Int32) then (0 : Int32) else if x0 = (2 : Int32) then ((0 : Int32) + (x3 / (10 : Int32))) else if x0 = (3 : Int32) then (0 : Int32) else if x0 = (4 : Int32) then ((2 : Int32) * (0 : Int32)) else if x0 = (5 : Int32) then ((0 : Int32) / (2 : Int32)) else (0 : Int32) else if x0 = (1 : Int32) then (0 : Int32) else if x0 = (2 : Int32) then ((0 : Int32) + (x3 / (10 : Int32))) else if x0 = (3 : Int32) then ((0 : Int32) - (1 : Int32)) else if x0 = (4 : Int32) then ((2 : Int32) * (0 : Int32)) else if x0 = (5 : Int32) then (((0 : Int32) - (1 : Int32)) / (2 : Int32)) else (0 : Int32) else if (10 : Int32) ≤ x3 then if x0 = (1 : Int32) then ((0 : Int32) + (2 : Int32)) else if x0 = (2 : Int32) then ((0 : Int32) + (x3 / (10 : Int32))) else if x0 = (3 : Int32) then (0 : Int32) else if x0 = (4 : Int32) then ((2 : Int32) * ((0 : Int32) + (2 : Int32))) else if x0 = (5 : Int32) then ((0 : Int32) / (2 : Int32)) else (0 : Int32) else if (0 : Int32) ≤ 0 then if x0 = (1 : Int32) then ((0 : Int32) + (2 : Int32)) else if x0 = (2 : Int32) then ((0 : Int32) + (x3 / (10 : Int32))) else if x0 = (3 : Int32) then (0 : Int32) else if x0 = (4 : Int32) then ((2 : Int32) * ((0 : Int32) + (2 : Int32))) else if x0 = (5 : Int32) then ((0 : Int32) / (2 : Int32)) else (0 : Int32) else if x0 = (1 : Int32) then ((0 : Int32) + (2 : Int32)) else if x0 = (2 : Int32) then ((0 : Int32) + (x3 / (10 : Int32))) else if x0 = (3 : Int32) then ((0 : Int32) - (1 : Int32)) else if x0 = (4 : Int32) then ((2 : Int32) * ((0 : Int32) + (2 : Int32))) else if x0 = (5 : Int32) then (((0 : Int32) - (1 : Int32)) / (2 : Int32)) else (0 : Int32) else if x3 < (20 : Int32) then if (10 : Int32) ≤ x3 then if x0 = (1 : Int32) then (x1 - ((2 : Int32) * x2)) else if x0 = (2 : Int32) then ((x1 - ((2 : Int32) * x2)) + (x3 / (10 : Int32))) else if x0 = (3 : Int32) then (x1 - ((2 : Int32) * x2)) else if x0 = (4 : Int32) then ((2 : Int32) * (x1 - ((2 : Int32) * x2))) else if x0 = (5 : Int32) then ((x1 - ((2 : Int32) * x2)) / (2 : Int32)) else (x1 - ((2 : Int32) * x2)) else if (x1 - ((2 : Int32) * x2)) ≤ 0 then if x0 = (1 : Int32) then (x1 - ((2 : Int32) * x2)) else if x0 = (2 : Int32) then ((x1 - ((2 : Int32) * x2)) + (x3 / (10 : Int32))) else if x0 = (3 : Int32) then (x1 - ((2 : Int32) * x2)) else if x0 = (4 : Int32) then ((2 : Int32) * (x1 - ((2 : Int32) * x2))) else if x0 = (5 : Int32) then ((x1 - ((2 : Int32) * x2)) / (2 : Int32)) else (x1 - ((2 : Int32) * x2)) else if x0 = (1 : Int32) then (x1 - ((2 : Int32) * x2)) else if x0 = (2 : Int32) then ((x1 - ((2 : Int32) * x2)) + (x3 / (10 : Int32))) else if x0 = (3 : Int32) then ((x1 - ((2 : Int32) * x2)) - (1 : Int32)) else if x0 = (4 : Int32) then ((2 : Int32) * (x1 - ((2 : Int32) * x2))) else if x0 = (5 : Int32) then (((x1 - ((2 : Int32) * x2)) - (1 : Int32)) / (2 : Int32)) else (x1 - ((2 : Int32) * x2)) else if (10 : Int32) ≤ x3 then if x0 = (1 : Int32) then ((x1 - ((2 : Int32) * x2)) + (2 : Int32)) else if x0 = (2 : Int32) then ((x1 - ((2 : Int32) * x2)) + (x3 / (10 : Int32))) else if x0 = (3 : Int32) then (x1 - ((2 : Int32) * x2)) else if x0 = (4 : Int32) then ((2 : Int32) * ((x1 - ((2 : Int32) * x2)) + (2 : Int32))) else if x0 = (5 : Int32) then ((x1 - ((2 : Int32) * x2)) / (2 : Int32)) else (x1 - ((2 : Int32) * x2)) else if (x1 - ((2 : Int32) * x2)) ≤ 0 then if x0 = (1 : Int32) then ((x1 - ((2 : Int32) * x2)) + (2 : Int32)) else if x0 = (2 : Int32) then ((x1 - ((2 : Int32) * x2)) + (x3 / (10 : Int32))) else if x0 = (3 : Int32) then (x1 - ((2 : Int32) * x2)) else if x0 = (4 : Int32) then ((2 : Int32) * ((x1 - ((2 : Int32) * x2)) + (2 : Int32))) else if x0 = (5 : Int32) then ((x1 - ((2 : Int32) * x2)) / (2 : Int32)) else (x1 - ((2 : Int32) * x2)) else if x0 = (1 : Int32) then ((x1 - ((2 : Int32) * x2)) + (2 : Int32)) else if x0 = (2 : Int32) then ((x1 - ((2 : Int32) * x2)) + (x3 / (10 : Int32))) else if x0 = (3 : Int32) then ((x1 - ((2 : Int32) * x2)) - (1 : Int32)) else if x0 = (4 : Int32) then ((2 : Int32) * ((x1 - ((2 : Int32) * x2)) + (2 : Int32))) else if x0 = (5 : Int32) then (((x1 - ((2 : Int32) * x2)) - (1 : Int32)) / (2 : Int32)) else (x1 - ((2 : Int32) * x2))
set_option maxRecDepth 20000 in
set_option maxHeartbeats 4000000 in
theorem m_X1_regardOf (x0 : Int32) (x1 : Int32) (x2 : Int32) (x3 : Int32)  (σ : fsS) (μ : fsL) (out : Int32) (h : F_X1_regardOf x0 x1 x2 x3 = out) : fs_Met yX1_regardOf cX1_regardOf 7 (some .int) { frames := 0, cells := 0, slots := 0, locals := 0 } [.int x0, .int x1, .int x2, .int x3] σ μ (some (.int out)) σ μ := by
  unfold F_X1_regardOf at h
  refine fs_intro (by decide +kernel) (Nat.le_of_ble_eq_true rfl) (fun X hX hR => ?_)
  show fs_PW X 0 [some (.int x0), some (.int x1), some (.int x2), some (.int x3), none, none, none] [] σ μ
  refine s_iload_n hX dX1_regardOf_0 rfl ?_
  refine s_ic hX (2 : Int32) dX1_regardOf_1 (by decide) ?_
  refine s_iload_n hX dX1_regardOf_2 rfl ?_
  refine s_imul hX dX1_regardOf_3 ?_
  refine s_ic_le hX 15 dX1_regardOf_4 (by decide) (fun c1 => ?_) (fun c1 => ?_)
  · have h := (if_pos c1).symm.trans h
    refine s_ic hX (0 : Int32) dX1_regardOf_15 (by decide) ?_
    refine s_istore hX dX1_regardOf_16 (Nat.le_of_ble_eq_true rfl) ?_
    refine s_iload_n hX dX1_regardOf_18 rfl ?_
    refine s_bi hX (20 : Int32) dX1_regardOf_19 (by decide) ?_
    refine s_ic_lt hX 31 dX1_regardOf_21 (by decide) (fun c2 => ?_) (fun c2 => ?_)
    · have h := (if_pos c2).symm.trans h
      refine s_iload hX dX1_regardOf_31 rfl ?_
      refine s_istore hX dX1_regardOf_33 (Nat.le_of_ble_eq_true rfl) ?_
      refine s_iload_n hX dX1_regardOf_35 rfl ?_
      refine s_bi hX (10 : Int32) dX1_regardOf_36 (by decide) ?_
      refine s_ic_ge hX 53 dX1_regardOf_38 (by decide) (fun c3 => ?_) (fun c3 => ?_)
      · have h := (if_pos c3).symm.trans h
        refine s_iload hX dX1_regardOf_53 rfl ?_
        refine s_istore hX dX1_regardOf_55 (Nat.le_of_ble_eq_true rfl) ?_
        refine s_iload_n hX dX1_regardOf_57 rfl ?_
        by_cases c4 : x0 = (1 : Int32)
        · have h := (if_pos c4).symm.trans h
          refine s_tabK hX 92 (1 : Int32) c4 dX1_regardOf_58 (by decide) (by decide) rfl (by decide) ?_
          refine s_iload hX dX1_regardOf_92 rfl ?_
          subst h
          exact s_iret hX hR dX1_regardOf_94
        · have h := (if_neg c4).symm.trans h
          by_cases c5 : x0 = (2 : Int32)
          · have h := (if_pos c5).symm.trans h
            refine s_tabK hX 95 (2 : Int32) c5 dX1_regardOf_58 (by decide) (by decide) rfl (by decide) ?_
            refine s_iload hX dX1_regardOf_95 rfl ?_
            refine s_iload_n hX dX1_regardOf_97 rfl ?_
            refine s_bi hX (10 : Int32) dX1_regardOf_98 (by decide) ?_
            refine s_idiv hX dX1_regardOf_100 (by decide) ?_
            refine s_iadd hX dX1_regardOf_101 ?_
            subst h
            exact s_iret hX hR dX1_regardOf_102
          · have h := (if_neg c5).symm.trans h
            by_cases c6 : x0 = (3 : Int32)
            · have h := (if_pos c6).symm.trans h
              refine s_tabK hX 103 (3 : Int32) c6 dX1_regardOf_58 (by decide) (by decide) rfl (by decide) ?_
              refine s_iload hX dX1_regardOf_103 rfl ?_
              subst h
              exact s_iret hX hR dX1_regardOf_105
            · have h := (if_neg c6).symm.trans h
              by_cases c7 : x0 = (4 : Int32)
              · have h := (if_pos c7).symm.trans h
                refine s_tabK hX 106 (4 : Int32) c7 dX1_regardOf_58 (by decide) (by decide) rfl (by decide) ?_
                refine s_ic hX (2 : Int32) dX1_regardOf_106 (by decide) ?_
                refine s_iload hX dX1_regardOf_107 rfl ?_
                refine s_imul hX dX1_regardOf_109 ?_
                subst h
                exact s_iret hX hR dX1_regardOf_110
              · have h := (if_neg c7).symm.trans h
                by_cases c8 : x0 = (5 : Int32)
                · have h := (if_pos c8).symm.trans h
                  refine s_tabK hX 111 (5 : Int32) c8 dX1_regardOf_58 (by decide) (by decide) rfl (by decide) ?_
                  refine s_iload hX dX1_regardOf_111 rfl ?_
                  refine s_ic hX (2 : Int32) dX1_regardOf_113 (by decide) ?_
                  refine s_idiv hX dX1_regardOf_114 (by decide) ?_
                  subst h
                  exact s_iret hX hR dX1_regardOf_115
                · have h := (if_neg c8).symm.trans h
                  have wc4 := fs_ne (z := 1) c4 (by decide)
                  have wc5 := fs_ne (z := 2) c5 (by decide)
                  have wc6 := fs_ne (z := 3) c6 (by decide)
                  have wc7 := fs_ne (z := 4) c7 (by decide)
                  have wc8 := fs_ne (z := 5) c8 (by decide)
                  refine s_tabOut hX 116 dX1_regardOf_58 (by omega) (by decide) ?_
                  refine s_iload hX dX1_regardOf_116 rfl ?_
                  subst h
                  exact s_iret hX hR dX1_regardOf_118
      · have h := (if_neg c3).symm.trans h
        refine s_iload hX dX1_regardOf_41 rfl ?_
        refine s_if_le hX 53 dX1_regardOf_43 (by decide) (fun c9 => ?_) (fun c9 => ?_)
        · have h := (if_pos c9).symm.trans h
          refine s_iload hX dX1_regardOf_53 rfl ?_
          refine s_istore hX dX1_regardOf_55 (Nat.le_of_ble_eq_true rfl) ?_
          refine s_iload_n hX dX1_regardOf_57 rfl ?_
          by_cases c10 : x0 = (1 : Int32)
          · have h := (if_pos c10).symm.trans h
            refine s_tabK hX 92 (1 : Int32) c10 dX1_regardOf_58 (by decide) (by decide) rfl (by decide) ?_
            refine s_iload hX dX1_regardOf_92 rfl ?_
            subst h
            exact s_iret hX hR dX1_regardOf_94
          · have h := (if_neg c10).symm.trans h
            by_cases c11 : x0 = (2 : Int32)
            · have h := (if_pos c11).symm.trans h
              refine s_tabK hX 95 (2 : Int32) c11 dX1_regardOf_58 (by decide) (by decide) rfl (by decide) ?_
              refine s_iload hX dX1_regardOf_95 rfl ?_
              refine s_iload_n hX dX1_regardOf_97 rfl ?_
              refine s_bi hX (10 : Int32) dX1_regardOf_98 (by decide) ?_
              refine s_idiv hX dX1_regardOf_100 (by decide) ?_
              refine s_iadd hX dX1_regardOf_101 ?_
              subst h
              exact s_iret hX hR dX1_regardOf_102
            · have h := (if_neg c11).symm.trans h
              by_cases c12 : x0 = (3 : Int32)
              · have h := (if_pos c12).symm.trans h
                refine s_tabK hX 103 (3 : Int32) c12 dX1_regardOf_58 (by decide) (by decide) rfl (by decide) ?_
                refine s_iload hX dX1_regardOf_103 rfl ?_
                subst h
                exact s_iret hX hR dX1_regardOf_105
              · have h := (if_neg c12).symm.trans h
                by_cases c13 : x0 = (4 : Int32)
                · have h := (if_pos c13).symm.trans h
                  refine s_tabK hX 106 (4 : Int32) c13 dX1_regardOf_58 (by decide) (by decide) rfl (by decide) ?_
                  refine s_ic hX (2 : Int32) dX1_regardOf_106 (by decide) ?_
                  refine s_iload hX dX1_regardOf_107 rfl ?_
                  refine s_imul hX dX1_regardOf_109 ?_
                  subst h
                  exact s_iret hX hR dX1_regardOf_110
                · have h := (if_neg c13).symm.trans h
                  by_cases c14 : x0 = (5 : Int32)
                  · have h := (if_pos c14).symm.trans h
                    refine s_tabK hX 111 (5 : Int32) c14 dX1_regardOf_58 (by decide) (by decide) rfl (by decide) ?_
                    refine s_iload hX dX1_regardOf_111 rfl ?_
                    refine s_ic hX (2 : Int32) dX1_regardOf_113 (by decide) ?_
                    refine s_idiv hX dX1_regardOf_114 (by decide) ?_
                    subst h
                    exact s_iret hX hR dX1_regardOf_115
                  · have h := (if_neg c14).symm.trans h
                    have wc10 := fs_ne (z := 1) c10 (by decide)
                    have wc11 := fs_ne (z := 2) c11 (by decide)
                    have wc12 := fs_ne (z := 3) c12 (by decide)
                    have wc13 := fs_ne (z := 4) c13 (by decide)
                    have wc14 := fs_ne (z := 5) c14 (by decide)
                    refine s_tabOut hX 116 dX1_regardOf_58 (by omega) (by decide) ?_
                    refine s_iload hX dX1_regardOf_116 rfl ?_
                    subst h
                    exact s_iret hX hR dX1_regardOf_118
        · have h := (if_neg c9).symm.trans h
          refine s_iload hX dX1_regardOf_46 rfl ?_
          refine s_ic hX (1 : Int32) dX1_regardOf_48 (by decide) ?_
          refine s_isub hX dX1_regardOf_49 ?_
          refine s_goto hX 55 dX1_regardOf_50 (by decide) ?_
          refine s_istore hX dX1_regardOf_55 (Nat.le_of_ble_eq_true rfl) ?_
          refine s_iload_n hX dX1_regardOf_57 rfl ?_
          by_cases c15 : x0 = (1 : Int32)
          · have h := (if_pos c15).symm.trans h
            refine s_tabK hX 92 (1 : Int32) c15 dX1_regardOf_58 (by decide) (by decide) rfl (by decide) ?_
            refine s_iload hX dX1_regardOf_92 rfl ?_
            subst h
            exact s_iret hX hR dX1_regardOf_94
          · have h := (if_neg c15).symm.trans h
            by_cases c16 : x0 = (2 : Int32)
            · have h := (if_pos c16).symm.trans h
              refine s_tabK hX 95 (2 : Int32) c16 dX1_regardOf_58 (by decide) (by decide) rfl (by decide) ?_
              refine s_iload hX dX1_regardOf_95 rfl ?_
              refine s_iload_n hX dX1_regardOf_97 rfl ?_
              refine s_bi hX (10 : Int32) dX1_regardOf_98 (by decide) ?_
              refine s_idiv hX dX1_regardOf_100 (by decide) ?_
              refine s_iadd hX dX1_regardOf_101 ?_
              subst h
              exact s_iret hX hR dX1_regardOf_102
            · have h := (if_neg c16).symm.trans h
              by_cases c17 : x0 = (3 : Int32)
              · have h := (if_pos c17).symm.trans h
                refine s_tabK hX 103 (3 : Int32) c17 dX1_regardOf_58 (by decide) (by decide) rfl (by decide) ?_
                refine s_iload hX dX1_regardOf_103 rfl ?_
                subst h
                exact s_iret hX hR dX1_regardOf_105
              · have h := (if_neg c17).symm.trans h
                by_cases c18 : x0 = (4 : Int32)
                · have h := (if_pos c18).symm.trans h
                  refine s_tabK hX 106 (4 : Int32) c18 dX1_regardOf_58 (by decide) (by decide) rfl (by decide) ?_
                  refine s_ic hX (2 : Int32) dX1_regardOf_106 (by decide) ?_
                  refine s_iload hX dX1_regardOf_107 rfl ?_
                  refine s_imul hX dX1_regardOf_109 ?_
                  subst h
                  exact s_iret hX hR dX1_regardOf_110
                · have h := (if_neg c18).symm.trans h
                  by_cases c19 : x0 = (5 : Int32)
                  · have h := (if_pos c19).symm.trans h
                    refine s_tabK hX 111 (5 : Int32) c19 dX1_regardOf_58 (by decide) (by decide) rfl (by decide) ?_
                    refine s_iload hX dX1_regardOf_111 rfl ?_
                    refine s_ic hX (2 : Int32) dX1_regardOf_113 (by decide) ?_
                    refine s_idiv hX dX1_regardOf_114 (by decide) ?_
                    subst h
                    exact s_iret hX hR dX1_regardOf_115
                  · have h := (if_neg c19).symm.trans h
                    have wc15 := fs_ne (z := 1) c15 (by decide)
                    have wc16 := fs_ne (z := 2) c16 (by decide)
                    have wc17 := fs_ne (z := 3) c17 (by decide)
                    have wc18 := fs_ne (z := 4) c18 (by decide)
                    have wc19 := fs_ne (z := 5) c19 (by decide)
                    refine s_tabOut hX 116 dX1_regardOf_58 (by omega) (by decide) ?_
                    refine s_iload hX dX1_regardOf_116 rfl ?_
                    subst h
                    exact s_iret hX hR dX1_regardOf_118
    · have h := (if_neg c2).symm.trans h
      refine s_iload hX dX1_regardOf_24 rfl ?_
      refine s_ic hX (2 : Int32) dX1_regardOf_26 (by decide) ?_
      refine s_iadd hX dX1_regardOf_27 ?_
      refine s_goto hX 33 dX1_regardOf_28 (by decide) ?_
      refine s_istore hX dX1_regardOf_33 (Nat.le_of_ble_eq_true rfl) ?_
      refine s_iload_n hX dX1_regardOf_35 rfl ?_
      refine s_bi hX (10 : Int32) dX1_regardOf_36 (by decide) ?_
      refine s_ic_ge hX 53 dX1_regardOf_38 (by decide) (fun c20 => ?_) (fun c20 => ?_)
      · have h := (if_pos c20).symm.trans h
        refine s_iload hX dX1_regardOf_53 rfl ?_
        refine s_istore hX dX1_regardOf_55 (Nat.le_of_ble_eq_true rfl) ?_
        refine s_iload_n hX dX1_regardOf_57 rfl ?_
        by_cases c21 : x0 = (1 : Int32)
        · have h := (if_pos c21).symm.trans h
          refine s_tabK hX 92 (1 : Int32) c21 dX1_regardOf_58 (by decide) (by decide) rfl (by decide) ?_
          refine s_iload hX dX1_regardOf_92 rfl ?_
          subst h
          exact s_iret hX hR dX1_regardOf_94
        · have h := (if_neg c21).symm.trans h
          by_cases c22 : x0 = (2 : Int32)
          · have h := (if_pos c22).symm.trans h
            refine s_tabK hX 95 (2 : Int32) c22 dX1_regardOf_58 (by decide) (by decide) rfl (by decide) ?_
            refine s_iload hX dX1_regardOf_95 rfl ?_
            refine s_iload_n hX dX1_regardOf_97 rfl ?_
            refine s_bi hX (10 : Int32) dX1_regardOf_98 (by decide) ?_
            refine s_idiv hX dX1_regardOf_100 (by decide) ?_
            refine s_iadd hX dX1_regardOf_101 ?_
            subst h
            exact s_iret hX hR dX1_regardOf_102
          · have h := (if_neg c22).symm.trans h
            by_cases c23 : x0 = (3 : Int32)
            · have h := (if_pos c23).symm.trans h
              refine s_tabK hX 103 (3 : Int32) c23 dX1_regardOf_58 (by decide) (by decide) rfl (by decide) ?_
              refine s_iload hX dX1_regardOf_103 rfl ?_
              subst h
              exact s_iret hX hR dX1_regardOf_105
            · have h := (if_neg c23).symm.trans h
              by_cases c24 : x0 = (4 : Int32)
              · have h := (if_pos c24).symm.trans h
                refine s_tabK hX 106 (4 : Int32) c24 dX1_regardOf_58 (by decide) (by decide) rfl (by decide) ?_
                refine s_ic hX (2 : Int32) dX1_regardOf_106 (by decide) ?_
                refine s_iload hX dX1_regardOf_107 rfl ?_
                refine s_imul hX dX1_regardOf_109 ?_
                subst h
                exact s_iret hX hR dX1_regardOf_110
              · have h := (if_neg c24).symm.trans h
                by_cases c25 : x0 = (5 : Int32)
                · have h := (if_pos c25).symm.trans h
                  refine s_tabK hX 111 (5 : Int32) c25 dX1_regardOf_58 (by decide) (by decide) rfl (by decide) ?_
                  refine s_iload hX dX1_regardOf_111 rfl ?_
                  refine s_ic hX (2 : Int32) dX1_regardOf_113 (by decide) ?_
                  refine s_idiv hX dX1_regardOf_114 (by decide) ?_
                  subst h
                  exact s_iret hX hR dX1_regardOf_115
                · have h := (if_neg c25).symm.trans h
                  have wc21 := fs_ne (z := 1) c21 (by decide)
                  have wc22 := fs_ne (z := 2) c22 (by decide)
                  have wc23 := fs_ne (z := 3) c23 (by decide)
                  have wc24 := fs_ne (z := 4) c24 (by decide)
                  have wc25 := fs_ne (z := 5) c25 (by decide)
                  refine s_tabOut hX 116 dX1_regardOf_58 (by omega) (by decide) ?_
                  refine s_iload hX dX1_regardOf_116 rfl ?_
                  subst h
                  exact s_iret hX hR dX1_regardOf_118
      · have h := (if_neg c20).symm.trans h
        refine s_iload hX dX1_regardOf_41 rfl ?_
        refine s_if_le hX 53 dX1_regardOf_43 (by decide) (fun c26 => ?_) (fun c26 => ?_)
        · have h := (if_pos c26).symm.trans h
          refine s_iload hX dX1_regardOf_53 rfl ?_
          refine s_istore hX dX1_regardOf_55 (Nat.le_of_ble_eq_true rfl) ?_
          refine s_iload_n hX dX1_regardOf_57 rfl ?_
          by_cases c27 : x0 = (1 : Int32)
          · have h := (if_pos c27).symm.trans h
            refine s_tabK hX 92 (1 : Int32) c27 dX1_regardOf_58 (by decide) (by decide) rfl (by decide) ?_
            refine s_iload hX dX1_regardOf_92 rfl ?_
            subst h
            exact s_iret hX hR dX1_regardOf_94
          · have h := (if_neg c27).symm.trans h
            by_cases c28 : x0 = (2 : Int32)
            · have h := (if_pos c28).symm.trans h
              refine s_tabK hX 95 (2 : Int32) c28 dX1_regardOf_58 (by decide) (by decide) rfl (by decide) ?_
              refine s_iload hX dX1_regardOf_95 rfl ?_
              refine s_iload_n hX dX1_regardOf_97 rfl ?_
              refine s_bi hX (10 : Int32) dX1_regardOf_98 (by decide) ?_
              refine s_idiv hX dX1_regardOf_100 (by decide) ?_
              refine s_iadd hX dX1_regardOf_101 ?_
              subst h
              exact s_iret hX hR dX1_regardOf_102
            · have h := (if_neg c28).symm.trans h
              by_cases c29 : x0 = (3 : Int32)
              · have h := (if_pos c29).symm.trans h
                refine s_tabK hX 103 (3 : Int32) c29 dX1_regardOf_58 (by decide) (by decide) rfl (by decide) ?_
                refine s_iload hX dX1_regardOf_103 rfl ?_
                subst h
                exact s_iret hX hR dX1_regardOf_105
              · have h := (if_neg c29).symm.trans h
                by_cases c30 : x0 = (4 : Int32)
                · have h := (if_pos c30).symm.trans h
                  refine s_tabK hX 106 (4 : Int32) c30 dX1_regardOf_58 (by decide) (by decide) rfl (by decide) ?_
                  refine s_ic hX (2 : Int32) dX1_regardOf_106 (by decide) ?_
                  refine s_iload hX dX1_regardOf_107 rfl ?_
                  refine s_imul hX dX1_regardOf_109 ?_
                  subst h
                  exact s_iret hX hR dX1_regardOf_110
                · have h := (if_neg c30).symm.trans h
                  by_cases c31 : x0 = (5 : Int32)
                  · have h := (if_pos c31).symm.trans h
                    refine s_tabK hX 111 (5 : Int32) c31 dX1_regardOf_58 (by decide) (by decide) rfl (by decide) ?_
                    refine s_iload hX dX1_regardOf_111 rfl ?_
                    refine s_ic hX (2 : Int32) dX1_regardOf_113 (by decide) ?_
                    refine s_idiv hX dX1_regardOf_114 (by decide) ?_
                    subst h
                    exact s_iret hX hR dX1_regardOf_115
                  · have h := (if_neg c31).symm.trans h
                    have wc27 := fs_ne (z := 1) c27 (by decide)
                    have wc28 := fs_ne (z := 2) c28 (by decide)
                    have wc29 := fs_ne (z := 3) c29 (by decide)
                    have wc30 := fs_ne (z := 4) c30 (by decide)
                    have wc31 := fs_ne (z := 5) c31 (by decide)
                    refine s_tabOut hX 116 dX1_regardOf_58 (by omega) (by decide) ?_
                    refine s_iload hX dX1_regardOf_116 rfl ?_
                    subst h
                    exact s_iret hX hR dX1_regardOf_118
        · have h := (if_neg c26).symm.trans h
          refine s_iload hX dX1_regardOf_46 rfl ?_
          refine s_ic hX (1 : Int32) dX1_regardOf_48 (by decide) ?_
          refine s_isub hX dX1_regardOf_49 ?_
          refine s_goto hX 55 dX1_regardOf_50 (by decide) ?_
          refine s_istore hX dX1_regardOf_55 (Nat.le_of_ble_eq_true rfl) ?_
          refine s_iload_n hX dX1_regardOf_57 rfl ?_
          by_cases c32 : x0 = (1 : Int32)
          · have h := (if_pos c32).symm.trans h
            refine s_tabK hX 92 (1 : Int32) c32 dX1_regardOf_58 (by decide) (by decide) rfl (by decide) ?_
            refine s_iload hX dX1_regardOf_92 rfl ?_
            subst h
            exact s_iret hX hR dX1_regardOf_94
          · have h := (if_neg c32).symm.trans h
            by_cases c33 : x0 = (2 : Int32)
            · have h := (if_pos c33).symm.trans h
              refine s_tabK hX 95 (2 : Int32) c33 dX1_regardOf_58 (by decide) (by decide) rfl (by decide) ?_
              refine s_iload hX dX1_regardOf_95 rfl ?_
              refine s_iload_n hX dX1_regardOf_97 rfl ?_
              refine s_bi hX (10 : Int32) dX1_regardOf_98 (by decide) ?_
              refine s_idiv hX dX1_regardOf_100 (by decide) ?_
              refine s_iadd hX dX1_regardOf_101 ?_
              subst h
              exact s_iret hX hR dX1_regardOf_102
            · have h := (if_neg c33).symm.trans h
              by_cases c34 : x0 = (3 : Int32)
              · have h := (if_pos c34).symm.trans h
                refine s_tabK hX 103 (3 : Int32) c34 dX1_regardOf_58 (by decide) (by decide) rfl (by decide) ?_
                refine s_iload hX dX1_regardOf_103 rfl ?_
                subst h
                exact s_iret hX hR dX1_regardOf_105
              · have h := (if_neg c34).symm.trans h
                by_cases c35 : x0 = (4 : Int32)
                · have h := (if_pos c35).symm.trans h
                  refine s_tabK hX 106 (4 : Int32) c35 dX1_regardOf_58 (by decide) (by decide) rfl (by decide) ?_
                  refine s_ic hX (2 : Int32) dX1_regardOf_106 (by decide) ?_
                  refine s_iload hX dX1_regardOf_107 rfl ?_
                  refine s_imul hX dX1_regardOf_109 ?_
                  subst h
                  exact s_iret hX hR dX1_regardOf_110
                · have h := (if_neg c35).symm.trans h
                  by_cases c36 : x0 = (5 : Int32)
                  · have h := (if_pos c36).symm.trans h
                    refine s_tabK hX 111 (5 : Int32) c36 dX1_regardOf_58 (by decide) (by decide) rfl (by decide) ?_
                    refine s_iload hX dX1_regardOf_111 rfl ?_
                    refine s_ic hX (2 : Int32) dX1_regardOf_113 (by decide) ?_
                    refine s_idiv hX dX1_regardOf_114 (by decide) ?_
                    subst h
                    exact s_iret hX hR dX1_regardOf_115
                  · have h := (if_neg c36).symm.trans h
                    have wc32 := fs_ne (z := 1) c32 (by decide)
                    have wc33 := fs_ne (z := 2) c33 (by decide)
                    have wc34 := fs_ne (z := 3) c34 (by decide)
                    have wc35 := fs_ne (z := 4) c35 (by decide)
                    have wc36 := fs_ne (z := 5) c36 (by decide)
                    refine s_tabOut hX 116 dX1_regardOf_58 (by omega) (by decide) ?_
                    refine s_iload hX dX1_regardOf_116 rfl ?_
                    subst h
                    exact s_iret hX hR dX1_regardOf_118
  · have h := (if_neg c1).symm.trans h
    refine s_iload_n hX dX1_regardOf_7 rfl ?_
    refine s_ic hX (2 : Int32) dX1_regardOf_8 (by decide) ?_
    refine s_iload_n hX dX1_regardOf_9 rfl ?_
    refine s_imul hX dX1_regardOf_10 ?_
    refine s_isub hX dX1_regardOf_11 ?_
    refine s_goto hX 16 dX1_regardOf_12 (by decide) ?_
    refine s_istore hX dX1_regardOf_16 (Nat.le_of_ble_eq_true rfl) ?_
    refine s_iload_n hX dX1_regardOf_18 rfl ?_
    refine s_bi hX (20 : Int32) dX1_regardOf_19 (by decide) ?_
    refine s_ic_lt hX 31 dX1_regardOf_21 (by decide) (fun c37 => ?_) (fun c37 => ?_)
    · have h := (if_pos c37).symm.trans h
      refine s_iload hX dX1_regardOf_31 rfl ?_
      refine s_istore hX dX1_regardOf_33 (Nat.le_of_ble_eq_true rfl) ?_
      refine s_iload_n hX dX1_regardOf_35 rfl ?_
      refine s_bi hX (10 : Int32) dX1_regardOf_36 (by decide) ?_
      refine s_ic_ge hX 53 dX1_regardOf_38 (by decide) (fun c38 => ?_) (fun c38 => ?_)
      · have h := (if_pos c38).symm.trans h
        refine s_iload hX dX1_regardOf_53 rfl ?_
        refine s_istore hX dX1_regardOf_55 (Nat.le_of_ble_eq_true rfl) ?_
        refine s_iload_n hX dX1_regardOf_57 rfl ?_
        by_cases c39 : x0 = (1 : Int32)
        · have h := (if_pos c39).symm.trans h
          refine s_tabK hX 92 (1 : Int32) c39 dX1_regardOf_58 (by decide) (by decide) rfl (by decide) ?_
          refine s_iload hX dX1_regardOf_92 rfl ?_
          subst h
          exact s_iret hX hR dX1_regardOf_94
        · have h := (if_neg c39).symm.trans h
          by_cases c40 : x0 = (2 : Int32)
          · have h := (if_pos c40).symm.trans h
            refine s_tabK hX 95 (2 : Int32) c40 dX1_regardOf_58 (by decide) (by decide) rfl (by decide) ?_
            refine s_iload hX dX1_regardOf_95 rfl ?_
            refine s_iload_n hX dX1_regardOf_97 rfl ?_
            refine s_bi hX (10 : Int32) dX1_regardOf_98 (by decide) ?_
            refine s_idiv hX dX1_regardOf_100 (by decide) ?_
            refine s_iadd hX dX1_regardOf_101 ?_
            subst h
            exact s_iret hX hR dX1_regardOf_102
          · have h := (if_neg c40).symm.trans h
            by_cases c41 : x0 = (3 : Int32)
            · have h := (if_pos c41).symm.trans h
              refine s_tabK hX 103 (3 : Int32) c41 dX1_regardOf_58 (by decide) (by decide) rfl (by decide) ?_
              refine s_iload hX dX1_regardOf_103 rfl ?_
              subst h
              exact s_iret hX hR dX1_regardOf_105
            · have h := (if_neg c41).symm.trans h
              by_cases c42 : x0 = (4 : Int32)
              · have h := (if_pos c42).symm.trans h
                refine s_tabK hX 106 (4 : Int32) c42 dX1_regardOf_58 (by decide) (by decide) rfl (by decide) ?_
                refine s_ic hX (2 : Int32) dX1_regardOf_106 (by decide) ?_
                refine s_iload hX dX1_regardOf_107 rfl ?_
                refine s_imul hX dX1_regardOf_109 ?_
                subst h
                exact s_iret hX hR dX1_regardOf_110
              · have h := (if_neg c42).symm.trans h
                by_cases c43 : x0 = (5 : Int32)
                · have h := (if_pos c43).symm.trans h
                  refine s_tabK hX 111 (5 : Int32) c43 dX1_regardOf_58 (by decide) (by decide) rfl (by decide) ?_
                  refine s_iload hX dX1_regardOf_111 rfl ?_
                  refine s_ic hX (2 : Int32) dX1_regardOf_113 (by decide) ?_
                  refine s_idiv hX dX1_regardOf_114 (by decide) ?_
                  subst h
                  exact s_iret hX hR dX1_regardOf_115
                · have h := (if_neg c43).symm.trans h
                  have wc39 := fs_ne (z := 1) c39 (by decide)
                  have wc40 := fs_ne (z := 2) c40 (by decide)
                  have wc41 := fs_ne (z := 3) c41 (by decide)
                  have wc42 := fs_ne (z := 4) c42 (by decide)
                  have wc43 := fs_ne (z := 5) c43 (by decide)
                  refine s_tabOut hX 116 dX1_regardOf_58 (by omega) (by decide) ?_
                  refine s_iload hX dX1_regardOf_116 rfl ?_
                  subst h
                  exact s_iret hX hR dX1_regardOf_118
      · have h := (if_neg c38).symm.trans h
        refine s_iload hX dX1_regardOf_41 rfl ?_
        refine s_if_le hX 53 dX1_regardOf_43 (by decide) (fun c44 => ?_) (fun c44 => ?_)
        · have h := (if_pos c44).symm.trans h
          refine s_iload hX dX1_regardOf_53 rfl ?_
          refine s_istore hX dX1_regardOf_55 (Nat.le_of_ble_eq_true rfl) ?_
          refine s_iload_n hX dX1_regardOf_57 rfl ?_
          by_cases c45 : x0 = (1 : Int32)
          · have h := (if_pos c45).symm.trans h
            refine s_tabK hX 92 (1 : Int32) c45 dX1_regardOf_58 (by decide) (by decide) rfl (by decide) ?_
            refine s_iload hX dX1_regardOf_92 rfl ?_
            subst h
            exact s_iret hX hR dX1_regardOf_94
          · have h := (if_neg c45).symm.trans h
            by_cases c46 : x0 = (2 : Int32)
            · have h := (if_pos c46).symm.trans h
              refine s_tabK hX 95 (2 : Int32) c46 dX1_regardOf_58 (by decide) (by decide) rfl (by decide) ?_
              refine s_iload hX dX1_regardOf_95 rfl ?_
              refine s_iload_n hX dX1_regardOf_97 rfl ?_
              refine s_bi hX (10 : Int32) dX1_regardOf_98 (by decide) ?_
              refine s_idiv hX dX1_regardOf_100 (by decide) ?_
              refine s_iadd hX dX1_regardOf_101 ?_
              subst h
              exact s_iret hX hR dX1_regardOf_102
            · have h := (if_neg c46).symm.trans h
              by_cases c47 : x0 = (3 : Int32)
              · have h := (if_pos c47).symm.trans h
                refine s_tabK hX 103 (3 : Int32) c47 dX1_regardOf_58 (by decide) (by decide) rfl (by decide) ?_
                refine s_iload hX dX1_regardOf_103 rfl ?_
                subst h
                exact s_iret hX hR dX1_regardOf_105
              · have h := (if_neg c47).symm.trans h
                by_cases c48 : x0 = (4 : Int32)
                · have h := (if_pos c48).symm.trans h
                  refine s_tabK hX 106 (4 : Int32) c48 dX1_regardOf_58 (by decide) (by decide) rfl (by decide) ?_
                  refine s_ic hX (2 : Int32) dX1_regardOf_106 (by decide) ?_
                  refine s_iload hX dX1_regardOf_107 rfl ?_
                  refine s_imul hX dX1_regardOf_109 ?_
                  subst h
                  exact s_iret hX hR dX1_regardOf_110
                · have h := (if_neg c48).symm.trans h
                  by_cases c49 : x0 = (5 : Int32)
                  · have h := (if_pos c49).symm.trans h
                    refine s_tabK hX 111 (5 : Int32) c49 dX1_regardOf_58 (by decide) (by decide) rfl (by decide) ?_
                    refine s_iload hX dX1_regardOf_111 rfl ?_
                    refine s_ic hX (2 : Int32) dX1_regardOf_113 (by decide) ?_
                    refine s_idiv hX dX1_regardOf_114 (by decide) ?_
                    subst h
                    exact s_iret hX hR dX1_regardOf_115
                  · have h := (if_neg c49).symm.trans h
                    have wc45 := fs_ne (z := 1) c45 (by decide)
                    have wc46 := fs_ne (z := 2) c46 (by decide)
                    have wc47 := fs_ne (z := 3) c47 (by decide)
                    have wc48 := fs_ne (z := 4) c48 (by decide)
                    have wc49 := fs_ne (z := 5) c49 (by decide)
                    refine s_tabOut hX 116 dX1_regardOf_58 (by omega) (by decide) ?_
                    refine s_iload hX dX1_regardOf_116 rfl ?_
                    subst h
                    exact s_iret hX hR dX1_regardOf_118
        · have h := (if_neg c44).symm.trans h
          refine s_iload hX dX1_regardOf_46 rfl ?_
          refine s_ic hX (1 : Int32) dX1_regardOf_48 (by decide) ?_
          refine s_isub hX dX1_regardOf_49 ?_
          refine s_goto hX 55 dX1_regardOf_50 (by decide) ?_
          refine s_istore hX dX1_regardOf_55 (Nat.le_of_ble_eq_true rfl) ?_
          refine s_iload_n hX dX1_regardOf_57 rfl ?_
          by_cases c50 : x0 = (1 : Int32)
          · have h := (if_pos c50).symm.trans h
            refine s_tabK hX 92 (1 : Int32) c50 dX1_regardOf_58 (by decide) (by decide) rfl (by decide) ?_
            refine s_iload hX dX1_regardOf_92 rfl ?_
            subst h
            exact s_iret hX hR dX1_regardOf_94
          · have h := (if_neg c50).symm.trans h
            by_cases c51 : x0 = (2 : Int32)
            · have h := (if_pos c51).symm.trans h
              refine s_tabK hX 95 (2 : Int32) c51 dX1_regardOf_58 (by decide) (by decide) rfl (by decide) ?_
              refine s_iload hX dX1_regardOf_95 rfl ?_
              refine s_iload_n hX dX1_regardOf_97 rfl ?_
              refine s_bi hX (10 : Int32) dX1_regardOf_98 (by decide) ?_
              refine s_idiv hX dX1_regardOf_100 (by decide) ?_
              refine s_iadd hX dX1_regardOf_101 ?_
              subst h
              exact s_iret hX hR dX1_regardOf_102
            · have h := (if_neg c51).symm.trans h
              by_cases c52 : x0 = (3 : Int32)
              · have h := (if_pos c52).symm.trans h
                refine s_tabK hX 103 (3 : Int32) c52 dX1_regardOf_58 (by decide) (by decide) rfl (by decide) ?_
                refine s_iload hX dX1_regardOf_103 rfl ?_
                subst h
                exact s_iret hX hR dX1_regardOf_105
              · have h := (if_neg c52).symm.trans h
                by_cases c53 : x0 = (4 : Int32)
                · have h := (if_pos c53).symm.trans h
                  refine s_tabK hX 106 (4 : Int32) c53 dX1_regardOf_58 (by decide) (by decide) rfl (by decide) ?_
                  refine s_ic hX (2 : Int32) dX1_regardOf_106 (by decide) ?_
                  refine s_iload hX dX1_regardOf_107 rfl ?_
                  refine s_imul hX dX1_regardOf_109 ?_
                  subst h
                  exact s_iret hX hR dX1_regardOf_110
                · have h := (if_neg c53).symm.trans h
                  by_cases c54 : x0 = (5 : Int32)
                  · have h := (if_pos c54).symm.trans h
                    refine s_tabK hX 111 (5 : Int32) c54 dX1_regardOf_58 (by decide) (by decide) rfl (by decide) ?_
                    refine s_iload hX dX1_regardOf_111 rfl ?_
                    refine s_ic hX (2 : Int32) dX1_regardOf_113 (by decide) ?_
                    refine s_idiv hX dX1_regardOf_114 (by decide) ?_
                    subst h
                    exact s_iret hX hR dX1_regardOf_115
                  · have h := (if_neg c54).symm.trans h
                    have wc50 := fs_ne (z := 1) c50 (by decide)
                    have wc51 := fs_ne (z := 2) c51 (by decide)
                    have wc52 := fs_ne (z := 3) c52 (by decide)
                    have wc53 := fs_ne (z := 4) c53 (by decide)
                    have wc54 := fs_ne (z := 5) c54 (by decide)
                    refine s_tabOut hX 116 dX1_regardOf_58 (by omega) (by decide) ?_
                    refine s_iload hX dX1_regardOf_116 rfl ?_
                    subst h
                    exact s_iret hX hR dX1_regardOf_118
    · have h := (if_neg c37).symm.trans h
      refine s_iload hX dX1_regardOf_24 rfl ?_
      refine s_ic hX (2 : Int32) dX1_regardOf_26 (by decide) ?_
      refine s_iadd hX dX1_regardOf_27 ?_
      refine s_goto hX 33 dX1_regardOf_28 (by decide) ?_
      refine s_istore hX dX1_regardOf_33 (Nat.le_of_ble_eq_true rfl) ?_
      refine s_iload_n hX dX1_regardOf_35 rfl ?_
      refine s_bi hX (10 : Int32) dX1_regardOf_36 (by decide) ?_
      refine s_ic_ge hX 53 dX1_regardOf_38 (by decide) (fun c55 => ?_) (fun c55 => ?_)
      · have h := (if_pos c55).symm.trans h
        refine s_iload hX dX1_regardOf_53 rfl ?_
        refine s_istore hX dX1_regardOf_55 (Nat.le_of_ble_eq_true rfl) ?_
        refine s_iload_n hX dX1_regardOf_57 rfl ?_
        by_cases c56 : x0 = (1 : Int32)
        · have h := (if_pos c56).symm.trans h
          refine s_tabK hX 92 (1 : Int32) c56 dX1_regardOf_58 (by decide) (by decide) rfl (by decide) ?_
          refine s_iload hX dX1_regardOf_92 rfl ?_
          subst h
          exact s_iret hX hR dX1_regardOf_94
        · have h := (if_neg c56).symm.trans h
          by_cases c57 : x0 = (2 : Int32)
          · have h := (if_pos c57).symm.trans h
            refine s_tabK hX 95 (2 : Int32) c57 dX1_regardOf_58 (by decide) (by decide) rfl (by decide) ?_
            refine s_iload hX dX1_regardOf_95 rfl ?_
            refine s_iload_n hX dX1_regardOf_97 rfl ?_
            refine s_bi hX (10 : Int32) dX1_regardOf_98 (by decide) ?_
            refine s_idiv hX dX1_regardOf_100 (by decide) ?_
            refine s_iadd hX dX1_regardOf_101 ?_
            subst h
            exact s_iret hX hR dX1_regardOf_102
          · have h := (if_neg c57).symm.trans h
            by_cases c58 : x0 = (3 : Int32)
            · have h := (if_pos c58).symm.trans h
              refine s_tabK hX 103 (3 : Int32) c58 dX1_regardOf_58 (by decide) (by decide) rfl (by decide) ?_
              refine s_iload hX dX1_regardOf_103 rfl ?_
              subst h
              exact s_iret hX hR dX1_regardOf_105
            · have h := (if_neg c58).symm.trans h
              by_cases c59 : x0 = (4 : Int32)
              · have h := (if_pos c59).symm.trans h
                refine s_tabK hX 106 (4 : Int32) c59 dX1_regardOf_58 (by decide) (by decide) rfl (by decide) ?_
                refine s_ic hX (2 : Int32) dX1_regardOf_106 (by decide) ?_
                refine s_iload hX dX1_regardOf_107 rfl ?_
                refine s_imul hX dX1_regardOf_109 ?_
                subst h
                exact s_iret hX hR dX1_regardOf_110
              · have h := (if_neg c59).symm.trans h
                by_cases c60 : x0 = (5 : Int32)
                · have h := (if_pos c60).symm.trans h
                  refine s_tabK hX 111 (5 : Int32) c60 dX1_regardOf_58 (by decide) (by decide) rfl (by decide) ?_
                  refine s_iload hX dX1_regardOf_111 rfl ?_
                  refine s_ic hX (2 : Int32) dX1_regardOf_113 (by decide) ?_
                  refine s_idiv hX dX1_regardOf_114 (by decide) ?_
                  subst h
                  exact s_iret hX hR dX1_regardOf_115
                · have h := (if_neg c60).symm.trans h
                  have wc56 := fs_ne (z := 1) c56 (by decide)
                  have wc57 := fs_ne (z := 2) c57 (by decide)
                  have wc58 := fs_ne (z := 3) c58 (by decide)
                  have wc59 := fs_ne (z := 4) c59 (by decide)
                  have wc60 := fs_ne (z := 5) c60 (by decide)
                  refine s_tabOut hX 116 dX1_regardOf_58 (by omega) (by decide) ?_
                  refine s_iload hX dX1_regardOf_116 rfl ?_
                  subst h
                  exact s_iret hX hR dX1_regardOf_118
      · have h := (if_neg c55).symm.trans h
        refine s_iload hX dX1_regardOf_41 rfl ?_
        refine s_if_le hX 53 dX1_regardOf_43 (by decide) (fun c61 => ?_) (fun c61 => ?_)
        · have h := (if_pos c61).symm.trans h
          refine s_iload hX dX1_regardOf_53 rfl ?_
          refine s_istore hX dX1_regardOf_55 (Nat.le_of_ble_eq_true rfl) ?_
          refine s_iload_n hX dX1_regardOf_57 rfl ?_
          by_cases c62 : x0 = (1 : Int32)
          · have h := (if_pos c62).symm.trans h
            refine s_tabK hX 92 (1 : Int32) c62 dX1_regardOf_58 (by decide) (by decide) rfl (by decide) ?_
            refine s_iload hX dX1_regardOf_92 rfl ?_
            subst h
            exact s_iret hX hR dX1_regardOf_94
          · have h := (if_neg c62).symm.trans h
            by_cases c63 : x0 = (2 : Int32)
            · have h := (if_pos c63).symm.trans h
              refine s_tabK hX 95 (2 : Int32) c63 dX1_regardOf_58 (by decide) (by decide) rfl (by decide) ?_
              refine s_iload hX dX1_regardOf_95 rfl ?_
              refine s_iload_n hX dX1_regardOf_97 rfl ?_
              refine s_bi hX (10 : Int32) dX1_regardOf_98 (by decide) ?_
              refine s_idiv hX dX1_regardOf_100 (by decide) ?_
              refine s_iadd hX dX1_regardOf_101 ?_
              subst h
              exact s_iret hX hR dX1_regardOf_102
            · have h := (if_neg c63).symm.trans h
              by_cases c64 : x0 = (3 : Int32)
              · have h := (if_pos c64).symm.trans h
                refine s_tabK hX 103 (3 : Int32) c64 dX1_regardOf_58 (by decide) (by decide) rfl (by decide) ?_
                refine s_iload hX dX1_regardOf_103 rfl ?_
                subst h
                exact s_iret hX hR dX1_regardOf_105
              · have h := (if_neg c64).symm.trans h
                by_cases c65 : x0 = (4 : Int32)
                · have h := (if_pos c65).symm.trans h
                  refine s_tabK hX 106 (4 : Int32) c65 dX1_regardOf_58 (by decide) (by decide) rfl (by decide) ?_
                  refine s_ic hX (2 : Int32) dX1_regardOf_106 (by decide) ?_
                  refine s_iload hX dX1_regardOf_107 rfl ?_
                  refine s_imul hX dX1_regardOf_109 ?_
                  subst h
                  exact s_iret hX hR dX1_regardOf_110
                · have h := (if_neg c65).symm.trans h
                  by_cases c66 : x0 = (5 : Int32)
                  · have h := (if_pos c66).symm.trans h
                    refine s_tabK hX 111 (5 : Int32) c66 dX1_regardOf_58 (by decide) (by decide) rfl (by decide) ?_
                    refine s_iload hX dX1_regardOf_111 rfl ?_
                    refine s_ic hX (2 : Int32) dX1_regardOf_113 (by decide) ?_
                    refine s_idiv hX dX1_regardOf_114 (by decide) ?_
                    subst h
                    exact s_iret hX hR dX1_regardOf_115
                  · have h := (if_neg c66).symm.trans h
                    have wc62 := fs_ne (z := 1) c62 (by decide)
                    have wc63 := fs_ne (z := 2) c63 (by decide)
                    have wc64 := fs_ne (z := 3) c64 (by decide)
                    have wc65 := fs_ne (z := 4) c65 (by decide)
                    have wc66 := fs_ne (z := 5) c66 (by decide)
                    refine s_tabOut hX 116 dX1_regardOf_58 (by omega) (by decide) ?_
                    refine s_iload hX dX1_regardOf_116 rfl ?_
                    subst h
                    exact s_iret hX hR dX1_regardOf_118
        · have h := (if_neg c61).symm.trans h
          refine s_iload hX dX1_regardOf_46 rfl ?_
          refine s_ic hX (1 : Int32) dX1_regardOf_48 (by decide) ?_
          refine s_isub hX dX1_regardOf_49 ?_
          refine s_goto hX 55 dX1_regardOf_50 (by decide) ?_
          refine s_istore hX dX1_regardOf_55 (Nat.le_of_ble_eq_true rfl) ?_
          refine s_iload_n hX dX1_regardOf_57 rfl ?_
          by_cases c67 : x0 = (1 : Int32)
          · have h := (if_pos c67).symm.trans h
            refine s_tabK hX 92 (1 : Int32) c67 dX1_regardOf_58 (by decide) (by decide) rfl (by decide) ?_
            refine s_iload hX dX1_regardOf_92 rfl ?_
            subst h
            exact s_iret hX hR dX1_regardOf_94
          · have h := (if_neg c67).symm.trans h
            by_cases c68 : x0 = (2 : Int32)
            · have h := (if_pos c68).symm.trans h
              refine s_tabK hX 95 (2 : Int32) c68 dX1_regardOf_58 (by decide) (by decide) rfl (by decide) ?_
              refine s_iload hX dX1_regardOf_95 rfl ?_
              refine s_iload_n hX dX1_regardOf_97 rfl ?_
              refine s_bi hX (10 : Int32) dX1_regardOf_98 (by decide) ?_
              refine s_idiv hX dX1_regardOf_100 (by decide) ?_
              refine s_iadd hX dX1_regardOf_101 ?_
              subst h
              exact s_iret hX hR dX1_regardOf_102
            · have h := (if_neg c68).symm.trans h
              by_cases c69 : x0 = (3 : Int32)
              · have h := (if_pos c69).symm.trans h
                refine s_tabK hX 103 (3 : Int32) c69 dX1_regardOf_58 (by decide) (by decide) rfl (by decide) ?_
                refine s_iload hX dX1_regardOf_103 rfl ?_
                subst h
                exact s_iret hX hR dX1_regardOf_105
              · have h := (if_neg c69).symm.trans h
                by_cases c70 : x0 = (4 : Int32)
                · have h := (if_pos c70).symm.trans h
                  refine s_tabK hX 106 (4 : Int32) c70 dX1_regardOf_58 (by decide) (by decide) rfl (by decide) ?_
                  refine s_ic hX (2 : Int32) dX1_regardOf_106 (by decide) ?_
                  refine s_iload hX dX1_regardOf_107 rfl ?_
                  refine s_imul hX dX1_regardOf_109 ?_
                  subst h
                  exact s_iret hX hR dX1_regardOf_110
                · have h := (if_neg c70).symm.trans h
                  by_cases c71 : x0 = (5 : Int32)
                  · have h := (if_pos c71).symm.trans h
                    refine s_tabK hX 111 (5 : Int32) c71 dX1_regardOf_58 (by decide) (by decide) rfl (by decide) ?_
                    refine s_iload hX dX1_regardOf_111 rfl ?_
                    refine s_ic hX (2 : Int32) dX1_regardOf_113 (by decide) ?_
                    refine s_idiv hX dX1_regardOf_114 (by decide) ?_
                    subst h
                    exact s_iret hX hR dX1_regardOf_115
                  · have h := (if_neg c71).symm.trans h
                    have wc67 := fs_ne (z := 1) c67 (by decide)
                    have wc68 := fs_ne (z := 2) c68 (by decide)
                    have wc69 := fs_ne (z := 3) c69 (by decide)
                    have wc70 := fs_ne (z := 4) c70 (by decide)
                    have wc71 := fs_ne (z := 5) c71 (by decide)
                    refine s_tabOut hX 116 dX1_regardOf_58 (by omega) (by decide) ?_
                    refine s_iload hX dX1_regardOf_116 rfl ?_
                    subst h
                    exact s_iret hX hR dX1_regardOf_118
end
section
-- X1_weigh
def L_X1_weigh_7 (o : Nat) : Nat → Int32 → fsS → Option (fsS)
  | 0, _, _ => none
  | n0 + 1, y1, σ => if (σ o 0) ≤ y1 then some σ else fs_g (fs_in y1 6) (fs_g (fs_in y1 6) (fs_g (fs_in y1 6) (fs_g (fs_in y1 6) (fs_g (fs_in y1 6) (fs_g (fs_in y1 6) (fs_g (fs_in ((fs_u σ (7 * o - 14 + 5) y1.toNatClampNeg (F_X1_regardOf (σ (7 * o - 14 + 0) y1.toNatClampNeg) (σ (7 * o - 14 + 1) y1.toNatClampNeg) (σ (7 * o - 14 + 4) y1.toNatClampNeg) (σ (7 * o - 14 + 3) y1.toNatClampNeg))) o 8) 6) (if ((fs_u σ (7 * o - 14 + 5) y1.toNatClampNeg (F_X1_regardOf (σ (7 * o - 14 + 0) y1.toNatClampNeg) (σ (7 * o - 14 + 1) y1.toNatClampNeg) (σ (7 * o - 14 + 4) y1.toNatClampNeg) (σ (7 * o - 14 + 3) y1.toNatClampNeg))) (7 * o - 14 + 5) y1.toNatClampNeg) ≤ ((fs_u σ (7 * o - 14 + 5) y1.toNatClampNeg (F_X1_regardOf (σ (7 * o - 14 + 0) y1.toNatClampNeg) (σ (7 * o - 14 + 1) y1.toNatClampNeg) (σ (7 * o - 14 + 4) y1.toNatClampNeg) (σ (7 * o - 14 + 3) y1.toNatClampNeg))) (7 * o - 14 + 5) ((fs_u σ (7 * o - 14 + 5) y1.toNatClampNeg (F_X1_regardOf (σ (7 * o - 14 + 0) y1.toNatClampNeg) (σ (7 * o - 14 + 1) y1.toNatClampNeg) (σ (7 * o - 14 + 4) y1.toNatClampNeg) (σ (7 * o - 14 + 3) y1.toNatClampNeg))) o 8).toNatClampNeg) then L_X1_weigh_7 o n0 (y1 + (1 : Int32)) (fs_u σ (7 * o - 14 + 5) y1.toNatClampNeg (F_X1_regardOf (σ (7 * o - 14 + 0) y1.toNatClampNeg) (σ (7 * o - 14 + 1) y1.toNatClampNeg) (σ (7 * o - 14 + 4) y1.toNatClampNeg) (σ (7 * o - 14 + 3) y1.toNatClampNeg))) else L_X1_weigh_7 o n0 (y1 + (1 : Int32)) (fs_u (fs_u σ (7 * o - 14 + 5) y1.toNatClampNeg (F_X1_regardOf (σ (7 * o - 14 + 0) y1.toNatClampNeg) (σ (7 * o - 14 + 1) y1.toNatClampNeg) (σ (7 * o - 14 + 4) y1.toNatClampNeg) (σ (7 * o - 14 + 3) y1.toNatClampNeg))) o 8 y1))))))))
def L_X1_weigh_84 (o : Nat) : Nat → Int32 → fsS → Option (fsS)
  | 0, _, _ => none
  | n0 + 1, y1, σ => if (σ o 0) ≤ y1 then some σ else fs_g (fs_in (σ o 8) 6) (fs_g (fs_in y1 6) (fs_g (fs_in y1 6) (fs_g (fs_in y1 6) (L_X1_weigh_84 o n0 (y1 + (1 : Int32)) (fs_u (fs_u σ (7 * o - 14 + 6) y1.toNatClampNeg ((σ (7 * o - 14 + 5) (σ o 8).toNatClampNeg) - (σ (7 * o - 14 + 5) y1.toNatClampNeg))) o 9 (((fs_u σ (7 * o - 14 + 6) y1.toNatClampNeg ((σ (7 * o - 14 + 5) (σ o 8).toNatClampNeg) - (σ (7 * o - 14 + 5) y1.toNatClampNeg))) o 9) + ((fs_u σ (7 * o - 14 + 6) y1.toNatClampNeg ((σ (7 * o - 14 + 5) (σ o 8).toNatClampNeg) - (σ (7 * o - 14 + 5) y1.toNatClampNeg))) (7 * o - 14 + 6) y1.toNatClampNeg)))))))
def F_X1_weigh (o : Nat) (σ : fsS) : Option (fsS) := (L_X1_weigh_7 o fs_fu (0 : Int32) (fs_u σ o 8 (0 : Int32))).bind (fun q10 => (L_X1_weigh_84 o fs_fu (0 : Int32) (fs_u q10 o 9 (0 : Int32))).bind (fun q16 => some q16))
set_option maxRecDepth 20000 in
set_option maxHeartbeats 4000000 in
theorem l_X1_weigh_7 {o : Nat} (ho : fs_K o) {X : fsC} (hX : fs_ok cX1_weigh RX1 2 { frames := 1, cells := 0, slots := 0, locals := 26 } X) : ∀ (n : Nat) (y1 : Int32) (σ : fsS) (μ : fsL) (out : fsS) (_ : L_X1_weigh_7 o n y1 σ = some out) (k0 : fs_PW X 77 [some (.ref o), none] [] out μ), fs_PW X 7 [some (.ref o), some (.int y1)] [] σ μ := by
  intro n
  induction n with
  | zero =>
    intro y1 σ μ out h
    cases (show (none : Option (fsS)) = some out from h)
  | succ n0 ih =>
    intro y1 σ μ out h k0
    unfold L_X1_weigh_7 at h
    refine s_iload_n hX dX1_weigh_7 rfl ?_
    refine s_aload_n hX dX1_weigh_8 rfl ?_
    refine s_geti hX dX1_weigh_9 f_X1_9 (fs_kd0 ho) ?_
    refine s_ic_ge hX 77 dX1_weigh_12 (by decide) (fun c1 => ?_) (fun c1 => ?_)
    · have h := (if_pos c1).symm.trans h
      cases h
      refine fs_ma [true, false] ?_
      exact k0
    · have h := (if_neg c1).symm.trans h
      refine s_aload_n hX dX1_weigh_15 rfl ?_
      refine s_getr hX dX1_weigh_16 f_X1_31 (fs_kd6 ho) ?_
      refine s_iload_n hX dX1_weigh_19 rfl ?_
      refine s_aload_n hX dX1_weigh_20 rfl ?_
      refine s_getr hX dX1_weigh_21 f_X1_15 (fs_kd1 ho) ?_
      refine s_iload_n hX dX1_weigh_24 rfl ?_
      obtain ⟨g2, h⟩ := fs_gd h
      refine s_iald hX dX1_weigh_25 (fs_ik0 ho g2) ?_
      refine s_aload_n hX dX1_weigh_26 rfl ?_
      refine s_getr hX dX1_weigh_27 f_X1_19 (fs_kd2 ho) ?_
      refine s_iload_n hX dX1_weigh_30 rfl ?_
      obtain ⟨g3, h⟩ := fs_gd h
      refine s_iald hX dX1_weigh_31 (fs_ik1 ho g3) ?_
      refine s_aload_n hX dX1_weigh_32 rfl ?_
      refine s_getr hX dX1_weigh_33 f_X1_28 (fs_kd5 ho) ?_
      refine s_iload_n hX dX1_weigh_36 rfl ?_
      obtain ⟨g4, h⟩ := fs_gd h
      refine s_iald hX dX1_weigh_37 (fs_ik4 ho g4) ?_
      refine s_aload_n hX dX1_weigh_38 rfl ?_
      refine s_getr hX dX1_weigh_39 f_X1_25 (fs_kd4 ho) ?_
      refine s_iload_n hX dX1_weigh_42 rfl ?_
      obtain ⟨g5, h⟩ := fs_gd h
      refine s_iald hX dX1_weigh_43 (fs_ik3 ho g5) ?_
      refine s_callS hX (as := [.int (σ (7 * o - 14 + 0) y1.toNatClampNeg), .int (σ (7 * o - 14 + 1) y1.toNatClampNeg), .int (σ (7 * o - 14 + 4) y1.toNatClampNeg), .int (σ (7 * o - 14 + 3) y1.toNatClampNeg)]) dX1_weigh_44 k_X1_60 v_X1_regardOf (m_X1_regardOf (σ (7 * o - 14 + 0) y1.toNatClampNeg) (σ (7 * o - 14 + 1) y1.toNatClampNeg) (σ (7 * o - 14 + 4) y1.toNatClampNeg) (σ (7 * o - 14 + 3) y1.toNatClampNeg) σ μ _ rfl) ⟨rfl, rfl⟩ ⟨(Nat.le_of_ble_eq_true rfl), (Nat.le_of_ble_eq_true rfl)⟩ rfl rfl (Nat.le_of_ble_eq_true rfl) ?_
      obtain ⟨g6, h⟩ := fs_gd h
      refine s_iast hX dX1_weigh_47 (fs_ik5 ho g6) ?_
      refine s_aload_n hX dX1_weigh_48 rfl ?_
      refine s_getr hX dX1_weigh_49 f_X1_31 (fs_kd6 ho) ?_
      refine s_iload_n hX dX1_weigh_52 rfl ?_
      obtain ⟨g7, h⟩ := fs_gd h
      refine s_iald hX dX1_weigh_53 (fs_ik5 ho g7) ?_
      refine s_aload_n hX dX1_weigh_54 rfl ?_
      refine s_getr hX dX1_weigh_55 f_X1_31 (fs_kd6 ho) ?_
      refine s_aload_n hX dX1_weigh_58 rfl ?_
      refine s_geti hX dX1_weigh_59 f_X1_37 (fs_kd8 ho) ?_
      obtain ⟨g8, h⟩ := fs_gd h
      refine s_iald hX dX1_weigh_62 (fs_ik5 ho g8) ?_
      refine s_ic_le hX 71 dX1_weigh_63 (by decide) (fun c9 => ?_) (fun c9 => ?_)
      · have h := (if_pos c9).symm.trans h
        refine s_iinc hX (y1 + (1 : Int32)) dX1_weigh_71 rfl rfl (Nat.le_of_ble_eq_true rfl) ?_
        refine s_goto hX 7 dX1_weigh_74 (by decide) ?_
        refine fs_ma [true, true] ?_
        exact ih (y1 + (1 : Int32)) (fs_u σ (7 * o - 14 + 5) y1.toNatClampNeg (F_X1_regardOf (σ (7 * o - 14 + 0) y1.toNatClampNeg) (σ (7 * o - 14 + 1) y1.toNatClampNeg) (σ (7 * o - 14 + 4) y1.toNatClampNeg) (σ (7 * o - 14 + 3) y1.toNatClampNeg))) μ out h k0
      · have h := (if_neg c9).symm.trans h
        refine s_aload_n hX dX1_weigh_66 rfl ?_
        refine s_iload_n hX dX1_weigh_67 rfl ?_
        refine s_puti hX dX1_weigh_68 p_X1_37 (fs_kd8 ho) ?_
        refine s_iinc hX (y1 + (1 : Int32)) dX1_weigh_71 rfl rfl (Nat.le_of_ble_eq_true rfl) ?_
        refine s_goto hX 7 dX1_weigh_74 (by decide) ?_
        refine fs_ma [true, true] ?_
        exact ih (y1 + (1 : Int32)) (fs_u (fs_u σ (7 * o - 14 + 5) y1.toNatClampNeg (F_X1_regardOf (σ (7 * o - 14 + 0) y1.toNatClampNeg) (σ (7 * o - 14 + 1) y1.toNatClampNeg) (σ (7 * o - 14 + 4) y1.toNatClampNeg) (σ (7 * o - 14 + 3) y1.toNatClampNeg))) o 8 y1) μ out h k0
set_option maxRecDepth 20000 in
set_option maxHeartbeats 4000000 in
theorem l_X1_weigh_84 {o : Nat} (ho : fs_K o) {X : fsC} (hX : fs_ok cX1_weigh RX1 2 { frames := 1, cells := 0, slots := 0, locals := 26 } X) : ∀ (n : Nat) (y1 : Int32) (σ : fsS) (μ : fsL) (out : fsS) (_ : L_X1_weigh_84 o n y1 σ = some out) (k0 : fs_PW X 135 [none, none] [] out μ), fs_PW X 84 [some (.ref o), some (.int y1)] [] σ μ := by
  intro n
  induction n with
  | zero =>
    intro y1 σ μ out h
    cases (show (none : Option (fsS)) = some out from h)
  | succ n0 ih =>
    intro y1 σ μ out h k0
    unfold L_X1_weigh_84 at h
    refine s_iload_n hX dX1_weigh_84 rfl ?_
    refine s_aload_n hX dX1_weigh_85 rfl ?_
    refine s_geti hX dX1_weigh_86 f_X1_9 (fs_kd0 ho) ?_
    refine s_ic_ge hX 135 dX1_weigh_89 (by decide) (fun c11 => ?_) (fun c11 => ?_)
    · have h := (if_pos c11).symm.trans h
      cases h
      refine fs_ma [false, false] ?_
      exact k0
    · have h := (if_neg c11).symm.trans h
      refine s_aload_n hX dX1_weigh_92 rfl ?_
      refine s_getr hX dX1_weigh_93 f_X1_34 (fs_kd7 ho) ?_
      refine s_iload_n hX dX1_weigh_96 rfl ?_
      refine s_aload_n hX dX1_weigh_97 rfl ?_
      refine s_getr hX dX1_weigh_98 f_X1_31 (fs_kd6 ho) ?_
      refine s_aload_n hX dX1_weigh_101 rfl ?_
      refine s_geti hX dX1_weigh_102 f_X1_37 (fs_kd8 ho) ?_
      obtain ⟨g12, h⟩ := fs_gd h
      refine s_iald hX dX1_weigh_105 (fs_ik5 ho g12) ?_
      refine s_aload_n hX dX1_weigh_106 rfl ?_
      refine s_getr hX dX1_weigh_107 f_X1_31 (fs_kd6 ho) ?_
      refine s_iload_n hX dX1_weigh_110 rfl ?_
      obtain ⟨g13, h⟩ := fs_gd h
      refine s_iald hX dX1_weigh_111 (fs_ik5 ho g13) ?_
      refine s_isub hX dX1_weigh_112 ?_
      obtain ⟨g14, h⟩ := fs_gd h
      refine s_iast hX dX1_weigh_113 (fs_ik6 ho g14) ?_
      refine s_aload_n hX dX1_weigh_114 rfl ?_
      refine s_dup hX dX1_weigh_115 rfl ?_
      refine s_geti hX dX1_weigh_116 f_X1_40 (fs_kd9 ho) ?_
      refine s_aload_n hX dX1_weigh_119 rfl ?_
      refine s_getr hX dX1_weigh_120 f_X1_34 (fs_kd7 ho) ?_
      refine s_iload_n hX dX1_weigh_123 rfl ?_
      obtain ⟨g15, h⟩ := fs_gd h
      refine s_iald hX dX1_weigh_124 (fs_ik6 ho g15) ?_
      refine s_iadd hX dX1_weigh_125 ?_
      refine s_puti hX dX1_weigh_126 p_X1_40 (fs_kd9 ho) ?_
      refine s_iinc hX (y1 + (1 : Int32)) dX1_weigh_129 rfl rfl (Nat.le_of_ble_eq_true rfl) ?_
      refine s_goto hX 84 dX1_weigh_132 (by decide) ?_
      refine fs_ma [true, true] ?_
      exact ih (y1 + (1 : Int32)) (fs_u (fs_u σ (7 * o - 14 + 6) y1.toNatClampNeg ((σ (7 * o - 14 + 5) (σ o 8).toNatClampNeg) - (σ (7 * o - 14 + 5) y1.toNatClampNeg))) o 9 (((fs_u σ (7 * o - 14 + 6) y1.toNatClampNeg ((σ (7 * o - 14 + 5) (σ o 8).toNatClampNeg) - (σ (7 * o - 14 + 5) y1.toNatClampNeg))) o 9) + ((fs_u σ (7 * o - 14 + 6) y1.toNatClampNeg ((σ (7 * o - 14 + 5) (σ o 8).toNatClampNeg) - (σ (7 * o - 14 + 5) y1.toNatClampNeg))) (7 * o - 14 + 6) y1.toNatClampNeg))) μ out h k0
set_option maxRecDepth 20000 in
set_option maxHeartbeats 4000000 in
theorem m_X1_weigh (o : Nat) (ho : fs_K o) (σ : fsS) (μ : fsL) (out : fsS) (h : F_X1_weigh o σ = some out) : fs_Met yX1_weigh cX1_weigh 2 none { frames := 1, cells := 0, slots := 0, locals := 26 } [.ref o] σ μ none out μ := by
  unfold F_X1_weigh at h
  refine fs_intro (by decide +kernel) (Nat.le_of_ble_eq_true rfl) (fun X hX hR => ?_)
  show fs_PW X 0 [some (.ref o), none] [] σ μ
  refine s_aload_n hX dX1_weigh_0 rfl ?_
  refine s_ic hX (0 : Int32) dX1_weigh_1 (by decide) ?_
  refine s_puti hX dX1_weigh_2 p_X1_37 (fs_kd8 ho) ?_
  refine s_ic hX (0 : Int32) dX1_weigh_5 (by decide) ?_
  refine s_istore_n hX dX1_weigh_6 (Nat.le_of_ble_eq_true rfl) ?_
  obtain ⟨q10, e10, h⟩ := fs_bind h
  refine fs_ma [true, true] ?_
  refine l_X1_weigh_7 ho hX fs_fu (0 : Int32) (fs_u σ o 8 (0 : Int32)) μ q10 e10 ?_
  refine s_aload_n hX dX1_weigh_77 rfl ?_
  refine s_ic hX (0 : Int32) dX1_weigh_78 (by decide) ?_
  refine s_puti hX dX1_weigh_79 p_X1_40 (fs_kd9 ho) ?_
  refine s_ic hX (0 : Int32) dX1_weigh_82 (by decide) ?_
  refine s_istore_n hX dX1_weigh_83 (Nat.le_of_ble_eq_true rfl) ?_
  obtain ⟨q16, e16, h⟩ := fs_bind h
  refine fs_ma [true, true] ?_
  refine l_X1_weigh_84 ho hX fs_fu (0 : Int32) (fs_u q10 o 9 (0 : Int32)) μ q16 e16 ?_
  cases h
  exact s_vret hX hR dX1_weigh_135

-- X1_pass
def L_X1_pass_8 (o : Nat) : Nat → Int32 → Int32 → fsS → Option (Int32 × fsS)
  | 0, _, _, _ => none
  | n0 + 1, y1, y2, σ => if (σ o 0) ≤ y2 then some (y1, σ) else fs_g (fs_in y2 6) (fs_g (fs_in y2 6) (fs_g (fs_in y2 6) (fs_g (fs_in y2 6) (if (if (0 : Int32) < (if (((σ (7 * o - 14 + 3) y2.toNatClampNeg) + (σ (7 * o - 14 + 6) y2.toNatClampNeg)) - (σ (7 * o - 14 + 2) y2.toNatClampNeg)) < (99 : Int32) then (((σ (7 * o - 14 + 3) y2.toNatClampNeg) + (σ (7 * o - 14 + 6) y2.toNatClampNeg)) - (σ (7 * o - 14 + 2) y2.toNatClampNeg)) else (99 : Int32)) then (if (((σ (7 * o - 14 + 3) y2.toNatClampNeg) + (σ (7 * o - 14 + 6) y2.toNatClampNeg)) - (σ (7 * o - 14 + 2) y2.toNatClampNeg)) < (99 : Int32) then (((σ (7 * o - 14 + 3) y2.toNatClampNeg) + (σ (7 * o - 14 + 6) y2.toNatClampNeg)) - (σ (7 * o - 14 + 2) y2.toNatClampNeg)) else (99 : Int32)) else (0 : Int32)) = (σ (7 * o - 14 + 3) y2.toNatClampNeg) then fs_g (fs_in y2 6) (L_X1_pass_8 o n0 (y1 ||| (0 : Int32)) (y2 + (1 : Int32)) (fs_u σ (7 * o - 14 + 3) y2.toNatClampNeg (if (0 : Int32) < (if (((σ (7 * o - 14 + 3) y2.toNatClampNeg) + (σ (7 * o - 14 + 6) y2.toNatClampNeg)) - (σ (7 * o - 14 + 2) y2.toNatClampNeg)) < (99 : Int32) then (((σ (7 * o - 14 + 3) y2.toNatClampNeg) + (σ (7 * o - 14 + 6) y2.toNatClampNeg)) - (σ (7 * o - 14 + 2) y2.toNatClampNeg)) else (99 : Int32)) then (if (((σ (7 * o - 14 + 3) y2.toNatClampNeg) + (σ (7 * o - 14 + 6) y2.toNatClampNeg)) - (σ (7 * o - 14 + 2) y2.toNatClampNeg)) < (99 : Int32) then (((σ (7 * o - 14 + 3) y2.toNatClampNeg) + (σ (7 * o - 14 + 6) y2.toNatClampNeg)) - (σ (7 * o - 14 + 2) y2.toNatClampNeg)) else (99 : Int32)) else (0 : Int32)))) else fs_g (fs_in y2 6) (L_X1_pass_8 o n0 (y1 ||| (1 : Int32)) (y2 + (1 : Int32)) (fs_u σ (7 * o - 14 + 3) y2.toNatClampNeg (if (0 : Int32) < (if (((σ (7 * o - 14 + 3) y2.toNatClampNeg) + (σ (7 * o - 14 + 6) y2.toNatClampNeg)) - (σ (7 * o - 14 + 2) y2.toNatClampNeg)) < (99 : Int32) then (((σ (7 * o - 14 + 3) y2.toNatClampNeg) + (σ (7 * o - 14 + 6) y2.toNatClampNeg)) - (σ (7 * o - 14 + 2) y2.toNatClampNeg)) else (99 : Int32)) then (if (((σ (7 * o - 14 + 3) y2.toNatClampNeg) + (σ (7 * o - 14 + 6) y2.toNatClampNeg)) - (σ (7 * o - 14 + 2) y2.toNatClampNeg)) < (99 : Int32) then (((σ (7 * o - 14 + 3) y2.toNatClampNeg) + (σ (7 * o - 14 + 6) y2.toNatClampNeg)) - (σ (7 * o - 14 + 2) y2.toNatClampNeg)) else (99 : Int32)) else (0 : Int32))))))))
def F_X1_pass (o : Nat) (σ : fsS) : Option (Int32 × fsS) := (F_X1_weigh o σ).bind (fun q1 => (L_X1_pass_8 o fs_fu (0 : Int32) (0 : Int32) q1).bind (fun q10 => fs_g (q10.1 = 0 ∨ q10.1 = 1) (some (q10.1, q10.2))))
set_option maxRecDepth 20000 in
set_option maxHeartbeats 4000000 in
theorem l_X1_pass_8 {o : Nat} (ho : fs_K o) {X : fsC} (hX : fs_ok cX1_pass RX1 4 { frames := 2, cells := 0, slots := 0, locals := 47 } X) : ∀ (n : Nat) (y1 : Int32) (y2 : Int32) (σ : fsS) (μ : fsL) (out : Int32 × fsS) (_ : L_X1_pass_8 o n y1 y2 σ = some out) (k0 : fs_PW X 77 [none, some (.int out.1), none, none] [] out.2 μ), fs_PW X 8 [some (.ref o), some (.int y1), some (.int y2), none] [] σ μ := by
  intro n
  induction n with
  | zero =>
    intro y1 y2 σ μ out h
    cases (show (none : Option (Int32 × fsS)) = some out from h)
  | succ n0 ih =>
    intro y1 y2 σ μ out h k0
    unfold L_X1_pass_8 at h
    refine s_iload_n hX dX1_pass_8 rfl ?_
    refine s_aload_n hX dX1_pass_9 rfl ?_
    refine s_geti hX dX1_pass_10 f_X1_9 (fs_kd0 ho) ?_
    refine s_ic_ge hX 77 dX1_pass_13 (by decide) (fun c2 => ?_) (fun c2 => ?_)
    · have h := (if_pos c2).symm.trans h
      cases h
      refine fs_ma [false, true, false, false] ?_
      exact k0
    · have h := (if_neg c2).symm.trans h
      refine s_ic hX (0 : Int32) dX1_pass_16 (by decide) ?_
      refine s_bi hX (99 : Int32) dX1_pass_17 (by decide) ?_
      refine s_aload_n hX dX1_pass_19 rfl ?_
      refine s_getr hX dX1_pass_20 f_X1_25 (fs_kd4 ho) ?_
      refine s_iload_n hX dX1_pass_23 rfl ?_
      obtain ⟨g3, h⟩ := fs_gd h
      refine s_iald hX dX1_pass_24 (fs_ik3 ho g3) ?_
      refine s_aload_n hX dX1_pass_25 rfl ?_
      refine s_getr hX dX1_pass_26 f_X1_34 (fs_kd7 ho) ?_
      refine s_iload_n hX dX1_pass_29 rfl ?_
      obtain ⟨g4, h⟩ := fs_gd h
      refine s_iald hX dX1_pass_30 (fs_ik6 ho g4) ?_
      refine s_iadd hX dX1_pass_31 ?_
      refine s_aload_n hX dX1_pass_32 rfl ?_
      refine s_getr hX dX1_pass_33 f_X1_22 (fs_kd3 ho) ?_
      refine s_iload_n hX dX1_pass_36 rfl ?_
      obtain ⟨g5, h⟩ := fs_gd h
      refine s_iald hX dX1_pass_37 (fs_ik2 ho g5) ?_
      refine s_isub hX dX1_pass_38 ?_
      refine s_mmin hX dX1_pass_39 k_X1_67 rfl (Nat.le_of_ble_eq_true rfl) (Nat.le_of_ble_eq_true rfl) ?_
      refine s_mmax hX dX1_pass_42 k_X1_73 rfl (Nat.le_of_ble_eq_true rfl) (Nat.le_of_ble_eq_true rfl) ?_
      refine s_istore_n hX dX1_pass_45 (Nat.le_of_ble_eq_true rfl) ?_
      refine s_iload_n hX dX1_pass_46 rfl ?_
      refine s_iload_n hX dX1_pass_47 rfl ?_
      refine s_aload_n hX dX1_pass_48 rfl ?_
      refine s_getr hX dX1_pass_49 f_X1_25 (fs_kd4 ho) ?_
      refine s_iload_n hX dX1_pass_52 rfl ?_
      obtain ⟨g6, h⟩ := fs_gd h
      refine s_iald hX dX1_pass_53 (fs_ik3 ho g6) ?_
      refine s_ic_eq hX 61 dX1_pass_54 (by decide) (fun c7 => ?_) (fun c7 => ?_)
      · have h := (if_pos c7).symm.trans h
        refine s_ic hX (0 : Int32) dX1_pass_61 (by decide) ?_
        refine s_ior hX dX1_pass_62 ?_
        refine s_istore_n hX dX1_pass_63 (Nat.le_of_ble_eq_true rfl) ?_
        refine s_aload_n hX dX1_pass_64 rfl ?_
        refine s_getr hX dX1_pass_65 f_X1_25 (fs_kd4 ho) ?_
        refine s_iload_n hX dX1_pass_68 rfl ?_
        refine s_iload_n hX dX1_pass_69 rfl ?_
        obtain ⟨g8, h⟩ := fs_gd h
        refine s_iast hX dX1_pass_70 (fs_ik3 ho g8) ?_
        refine s_iinc hX (y2 + (1 : Int32)) dX1_pass_71 rfl rfl (Nat.le_of_ble_eq_true rfl) ?_
        refine s_goto hX 8 dX1_pass_74 (by decide) ?_
        refine fs_ma [true, true, true, false] ?_
        exact ih (y1 ||| (0 : Int32)) (y2 + (1 : Int32)) (fs_u σ (7 * o - 14 + 3) y2.toNatClampNeg (if (0 : Int32) < (if (((σ (7 * o - 14 + 3) y2.toNatClampNeg) + (σ (7 * o - 14 + 6) y2.toNatClampNeg)) - (σ (7 * o - 14 + 2) y2.toNatClampNeg)) < (99 : Int32) then (((σ (7 * o - 14 + 3) y2.toNatClampNeg) + (σ (7 * o - 14 + 6) y2.toNatClampNeg)) - (σ (7 * o - 14 + 2) y2.toNatClampNeg)) else (99 : Int32)) then (if (((σ (7 * o - 14 + 3) y2.toNatClampNeg) + (σ (7 * o - 14 + 6) y2.toNatClampNeg)) - (σ (7 * o - 14 + 2) y2.toNatClampNeg)) < (99 : Int32) then (((σ (7 * o - 14 + 3) y2.toNatClampNeg) + (σ (7 * o - 14 + 6) y2.toNatClampNeg)) - (σ (7 * o - 14 + 2) y2.toNatClampNeg)) else (99 : Int32)) else (0 : Int32))) μ out h k0
      · have h := (if_neg c7).symm.trans h
        refine s_ic hX (1 : Int32) dX1_pass_57 (by decide) ?_
        refine s_goto hX 62 dX1_pass_58 (by decide) ?_
        refine s_ior hX dX1_pass_62 ?_
        refine s_istore_n hX dX1_pass_63 (Nat.le_of_ble_eq_true rfl) ?_
        refine s_aload_n hX dX1_pass_64 rfl ?_
        refine s_getr hX dX1_pass_65 f_X1_25 (fs_kd4 ho) ?_
        refine s_iload_n hX dX1_pass_68 rfl ?_
        refine s_iload_n hX dX1_pass_69 rfl ?_
        obtain ⟨g9, h⟩ := fs_gd h
        refine s_iast hX dX1_pass_70 (fs_ik3 ho g9) ?_
        refine s_iinc hX (y2 + (1 : Int32)) dX1_pass_71 rfl rfl (Nat.le_of_ble_eq_true rfl) ?_
        refine s_goto hX 8 dX1_pass_74 (by decide) ?_
        refine fs_ma [true, true, true, false] ?_
        exact ih (y1 ||| (1 : Int32)) (y2 + (1 : Int32)) (fs_u σ (7 * o - 14 + 3) y2.toNatClampNeg (if (0 : Int32) < (if (((σ (7 * o - 14 + 3) y2.toNatClampNeg) + (σ (7 * o - 14 + 6) y2.toNatClampNeg)) - (σ (7 * o - 14 + 2) y2.toNatClampNeg)) < (99 : Int32) then (((σ (7 * o - 14 + 3) y2.toNatClampNeg) + (σ (7 * o - 14 + 6) y2.toNatClampNeg)) - (σ (7 * o - 14 + 2) y2.toNatClampNeg)) else (99 : Int32)) then (if (((σ (7 * o - 14 + 3) y2.toNatClampNeg) + (σ (7 * o - 14 + 6) y2.toNatClampNeg)) - (σ (7 * o - 14 + 2) y2.toNatClampNeg)) < (99 : Int32) then (((σ (7 * o - 14 + 3) y2.toNatClampNeg) + (σ (7 * o - 14 + 6) y2.toNatClampNeg)) - (σ (7 * o - 14 + 2) y2.toNatClampNeg)) else (99 : Int32)) else (0 : Int32))) μ out h k0
set_option maxRecDepth 20000 in
set_option maxHeartbeats 4000000 in
theorem m_X1_pass (o : Nat) (ho : fs_K o) (σ : fsS) (μ : fsL) (out : Int32 × fsS) (h : F_X1_pass o σ = some out) : fs_Met yX1_pass cX1_pass 4 (some .boolean) { frames := 2, cells := 0, slots := 0, locals := 47 } [.ref o] σ μ (some (.int out.1)) out.2 μ := by
  unfold F_X1_pass at h
  refine fs_intro (by decide +kernel) (Nat.le_of_ble_eq_true rfl) (fun X hX hR => ?_)
  show fs_PW X 0 [some (.ref o), none, none, none] [] σ μ
  refine s_aload_n hX dX1_pass_0 rfl ?_
  obtain ⟨q1, e1, h⟩ := fs_bind h
  refine s_cV hX [] dX1_pass_1 k_X1_64 v_X1_weigh (m_X1_weigh o ho σ μ q1 e1) (fs_K_is ho) fs_c1 ⟨rfl, rfl⟩ ⟨(Nat.le_of_ble_eq_true rfl), (Nat.le_of_ble_eq_true rfl)⟩ rfl rfl (Nat.le_of_ble_eq_true rfl) ?_
  refine s_ic hX (0 : Int32) dX1_pass_4 (by decide) ?_
  refine s_istore_n hX dX1_pass_5 (Nat.le_of_ble_eq_true rfl) ?_
  refine s_ic hX (0 : Int32) dX1_pass_6 (by decide) ?_
  refine s_istore_n hX dX1_pass_7 (Nat.le_of_ble_eq_true rfl) ?_
  obtain ⟨q10, e10, h⟩ := fs_bind h
  refine fs_ma [true, true, true, false] ?_
  refine l_X1_pass_8 ho hX fs_fu (0 : Int32) (0 : Int32) q1 μ q10 e10 ?_
  refine s_iload_n hX dX1_pass_77 rfl ?_
  obtain ⟨g11, h⟩ := fs_gd h
  cases h
  exact s_zret hX g11 hR dX1_pass_78

-- X0_perform
def F_X0_perform (x1 : Int32) (σ : fsS) : Option (fsS) := if (σ 5 0) ≤ ((x1 >>> ((3 : Int32) &&& 31)) &&& (7 : Int32)) then some σ else if ((x1 >>> ((6 : Int32) &&& 31)) &&& (7 : Int32)) < (σ 5 0) then if (x1 &&& (7 : Int32)) = (0 : Int32) then (F_X1_pass 5 σ).bind (fun q4 => some (fs_u q4.2 3 2 ((q4.2 3 2) + (1 : Int32)))) else if (x1 &&& (7 : Int32)) = (1 : Int32) then fs_g (fs_in ((x1 >>> ((3 : Int32) &&& 31)) &&& (7 : Int32)) 6) (fs_g (fs_in ((x1 >>> ((3 : Int32) &&& 31)) &&& (7 : Int32)) 6) (some (fs_u σ 25 ((x1 >>> ((3 : Int32) &&& 31)) &&& (7 : Int32)).toNatClampNeg ((σ 25 ((x1 >>> ((3 : Int32) &&& 31)) &&& (7 : Int32)).toNatClampNeg) + (1 : Int32))))) else if (x1 &&& (7 : Int32)) = (2 : Int32) then fs_g (fs_in ((x1 >>> ((3 : Int32) &&& 31)) &&& (7 : Int32)) 6) (some (fs_u σ 25 ((x1 >>> ((3 : Int32) &&& 31)) &&& (7 : Int32)).toNatClampNeg (0 : Int32))) else if (x1 &&& (7 : Int32)) = (3 : Int32) then fs_g (fs_in ((x1 >>> ((3 : Int32) &&& 31)) &&& (7 : Int32)) 6) (fs_g (fs_in ((x1 >>> ((3 : Int32) &&& 31)) &&& (7 : Int32)) 6) (fs_g (fs_in ((x1 >>> ((6 : Int32) &&& 31)) &&& (7 : Int32)) 6) (fs_g (fs_in ((x1 >>> ((6 : Int32) &&& 31)) &&& (7 : Int32)) 6) (some (fs_u (fs_u σ 24 ((x1 >>> ((3 : Int32) &&& 31)) &&& (7 : Int32)).toNatClampNeg ((σ 24 ((x1 >>> ((3 : Int32) &&& 31)) &&& (7 : Int32)).toNatClampNeg) - (x1 >>> ((9 : Int32) &&& 31)))) 24 ((x1 >>> ((6 : Int32) &&& 31)) &&& (7 : Int32)).toNatClampNeg (if (((fs_u σ 24 ((x1 >>> ((3 : Int32) &&& 31)) &&& (7 : Int32)).toNatClampNeg ((σ 24 ((x1 >>> ((3 : Int32) &&& 31)) &&& (7 : Int32)).toNatClampNeg) - (x1 >>> ((9 : Int32) &&& 31)))) 24 ((x1 >>> ((6 : Int32) &&& 31)) &&& (7 : Int32)).toNatClampNeg) + (x1 >>> ((9 : Int32) &&& 31))) < (99 : Int32) then (((fs_u σ 24 ((x1 >>> ((3 : Int32) &&& 31)) &&& (7 : Int32)).toNatClampNeg ((σ 24 ((x1 >>> ((3 : Int32) &&& 31)) &&& (7 : Int32)).toNatClampNeg) - (x1 >>> ((9 : Int32) &&& 31)))) 24 ((x1 >>> ((6 : Int32) &&& 31)) &&& (7 : Int32)).toNatClampNeg) + (x1 >>> ((9 : Int32) &&& 31))) else (99 : Int32))))))) else some σ else some σ
set_option maxRecDepth 20000 in
set_option maxHeartbeats 4000000 in
theorem m_X0_perform (x1 : Int32)  (σ : fsS) (μ : fsL) (out : fsS) (h : F_X0_perform x1 σ = some out) : fs_Met yX0_perform cX0_perform 5 none { frames := 3, cells := 0, slots := 0, locals := 70 } [.ref 3, .int x1] σ μ none out μ := by
  unfold F_X0_perform at h
  refine fs_intro (by decide +kernel) (Nat.le_of_ble_eq_true rfl) (fun X hX hR => ?_)
  show fs_PW X 0 [some (.ref 3), some (.int x1), none, none, none] [] σ μ
  refine s_iload_n hX dX0_perform_0 rfl ?_
  refine s_ic hX (3 : Int32) dX0_perform_1 (by decide) ?_
  refine s_ishr hX dX0_perform_2 ?_
  refine s_bi hX (7 : Int32) dX0_perform_3 (by decide) ?_
  refine s_iand hX dX0_perform_5 ?_
  refine s_istore_n hX dX0_perform_6 (Nat.le_of_ble_eq_true rfl) ?_
  refine s_iload_n hX dX0_perform_7 rfl ?_
  refine s_bi hX (6 : Int32) dX0_perform_8 (by decide) ?_
  refine s_ishr hX dX0_perform_10 ?_
  refine s_bi hX (7 : Int32) dX0_perform_11 (by decide) ?_
  refine s_iand hX dX0_perform_13 ?_
  refine s_istore_n hX dX0_perform_14 (Nat.le_of_ble_eq_true rfl) ?_
  refine s_iload_n hX dX0_perform_15 rfl ?_
  refine s_bi hX (9 : Int32) dX0_perform_16 (by decide) ?_
  refine s_ishr hX dX0_perform_18 ?_
  refine s_istore hX dX0_perform_19 (Nat.le_of_ble_eq_true rfl) ?_
  refine s_iload_n hX dX0_perform_21 rfl ?_
  refine s_aload_n hX dX0_perform_22 rfl ?_
  refine s_getr hX dX0_perform_23 f_X0_18 rfl ?_
  refine s_geti hX dX0_perform_26 f_X0_61 rfl ?_
  refine s_ic_ge hX 43 dX0_perform_29 (by decide) (fun c1 => ?_) (fun c1 => ?_)
  · have h := (if_pos c1).symm.trans h
    cases h
    exact s_vret hX hR dX0_perform_43
  · have h := (if_neg c1).symm.trans h
    refine s_iload_n hX dX0_perform_32 rfl ?_
    refine s_aload_n hX dX0_perform_33 rfl ?_
    refine s_getr hX dX0_perform_34 f_X0_18 rfl ?_
    refine s_geti hX dX0_perform_37 f_X0_61 rfl ?_
    refine s_ic_lt hX 44 dX0_perform_40 (by decide) (fun c2 => ?_) (fun c2 => ?_)
    · have h := (if_pos c2).symm.trans h
      refine s_iload_n hX dX0_perform_44 rfl ?_
      refine s_bi hX (7 : Int32) dX0_perform_45 (by decide) ?_
      refine s_iand hX dX0_perform_47 ?_
      by_cases c3 : (x1 &&& (7 : Int32)) = (0 : Int32)
      · have h := (if_pos c3).symm.trans h
        refine s_tabK hX 80 (0 : Int32) c3 dX0_perform_48 (by decide) (by decide) rfl (by decide) ?_
        refine s_aload_n hX dX0_perform_80 rfl ?_
        refine s_getr hX dX0_perform_81 f_X0_18 rfl ?_
        obtain ⟨q4, e4, h⟩ := fs_bind h
        refine s_cV hX [] dX0_perform_84 k_X0_64 v_X1_pass (m_X1_pass 5 fs_K5 σ μ q4 e4) (fs_K_is fs_K5) fs_c1 ⟨rfl, rfl⟩ ⟨(Nat.le_of_ble_eq_true rfl), (Nat.le_of_ble_eq_true rfl)⟩ rfl rfl (Nat.le_of_ble_eq_true rfl) ?_
        refine s_pop hX dX0_perform_87 rfl ?_
        refine s_aload_n hX dX0_perform_88 rfl ?_
        refine s_dup hX dX0_perform_89 rfl ?_
        refine s_geti hX dX0_perform_90 f_X0_21 rfl ?_
        refine s_ic hX (1 : Int32) dX0_perform_93 (by decide) ?_
        refine s_iadd hX dX0_perform_94 ?_
        refine s_puti hX dX0_perform_95 p_X0_21 rfl ?_
        refine s_goto hX 173 dX0_perform_98 (by decide) ?_
        cases h
        exact s_vret hX hR dX0_perform_173
      · have h := (if_neg c3).symm.trans h
        by_cases c5 : (x1 &&& (7 : Int32)) = (1 : Int32)
        · have h := (if_pos c5).symm.trans h
          refine s_tabK hX 101 (1 : Int32) c5 dX0_perform_48 (by decide) (by decide) rfl (by decide) ?_
          refine s_aload_n hX dX0_perform_101 rfl ?_
          refine s_getr hX dX0_perform_102 f_X0_18 rfl ?_
          refine s_getr hX dX0_perform_105 f_X0_68 rfl ?_
          refine s_iload_n hX dX0_perform_108 rfl ?_
          refine s_dup2 hX dX0_perform_109 rfl rfl ?_
          obtain ⟨g6, h⟩ := fs_gd h
          refine s_iald hX dX0_perform_110 g6 ?_
          refine s_ic hX (1 : Int32) dX0_perform_111 (by decide) ?_
          refine s_iadd hX dX0_perform_112 ?_
          obtain ⟨g7, h⟩ := fs_gd h
          refine s_iast hX dX0_perform_113 g7 ?_
          refine s_goto hX 173 dX0_perform_114 (by decide) ?_
          cases h
          exact s_vret hX hR dX0_perform_173
        · have h := (if_neg c5).symm.trans h
          by_cases c8 : (x1 &&& (7 : Int32)) = (2 : Int32)
          · have h := (if_pos c8).symm.trans h
            refine s_tabK hX 117 (2 : Int32) c8 dX0_perform_48 (by decide) (by decide) rfl (by decide) ?_
            refine s_aload_n hX dX0_perform_117 rfl ?_
            refine s_getr hX dX0_perform_118 f_X0_18 rfl ?_
            refine s_getr hX dX0_perform_121 f_X0_68 rfl ?_
            refine s_iload_n hX dX0_perform_124 rfl ?_
            refine s_ic hX (0 : Int32) dX0_perform_125 (by decide) ?_
            obtain ⟨g9, h⟩ := fs_gd h
            refine s_iast hX dX0_perform_126 g9 ?_
            refine s_goto hX 173 dX0_perform_127 (by decide) ?_
            cases h
            exact s_vret hX hR dX0_perform_173
          · have h := (if_neg c8).symm.trans h
            by_cases c10 : (x1 &&& (7 : Int32)) = (3 : Int32)
            · have h := (if_pos c10).symm.trans h
              refine s_tabK hX 130 (3 : Int32) c10 dX0_perform_48 (by decide) (by decide) rfl (by decide) ?_
              refine s_aload_n hX dX0_perform_130 rfl ?_
              refine s_getr hX dX0_perform_131 f_X0_18 rfl ?_
              refine s_getr hX dX0_perform_134 f_X0_71 rfl ?_
              refine s_iload_n hX dX0_perform_137 rfl ?_
              refine s_dup2 hX dX0_perform_138 rfl rfl ?_
              obtain ⟨g11, h⟩ := fs_gd h
              refine s_iald hX dX0_perform_139 g11 ?_
              refine s_iload hX dX0_perform_140 rfl ?_
              refine s_isub hX dX0_perform_142 ?_
              obtain ⟨g12, h⟩ := fs_gd h
              refine s_iast hX dX0_perform_143 g12 ?_
              refine s_aload_n hX dX0_perform_144 rfl ?_
              refine s_getr hX dX0_perform_145 f_X0_18 rfl ?_
              refine s_getr hX dX0_perform_148 f_X0_71 rfl ?_
              refine s_iload_n hX dX0_perform_151 rfl ?_
              refine s_bi hX (99 : Int32) dX0_perform_152 (by decide) ?_
              refine s_aload_n hX dX0_perform_154 rfl ?_
              refine s_getr hX dX0_perform_155 f_X0_18 rfl ?_
              refine s_getr hX dX0_perform_158 f_X0_71 rfl ?_
              refine s_iload_n hX dX0_perform_161 rfl ?_
              obtain ⟨g13, h⟩ := fs_gd h
              refine s_iald hX dX0_perform_162 g13 ?_
              refine s_iload hX dX0_perform_163 rfl ?_
              refine s_iadd hX dX0_perform_165 ?_
              refine s_mmin hX dX0_perform_166 k_X0_74 rfl (Nat.le_of_ble_eq_true rfl) (Nat.le_of_ble_eq_true rfl) ?_
              obtain ⟨g14, h⟩ := fs_gd h
              refine s_iast hX dX0_perform_169 g14 ?_
              refine s_goto hX 173 dX0_perform_170 (by decide) ?_
              cases h
              exact s_vret hX hR dX0_perform_173
            · have h := (if_neg c10).symm.trans h
              have wc3 := fs_ne (z := 0) c3 (by decide)
              have wc5 := fs_ne (z := 1) c5 (by decide)
              have wc8 := fs_ne (z := 2) c8 (by decide)
              have wc10 := fs_ne (z := 3) c10 (by decide)
              refine s_tabOut hX 173 dX0_perform_48 (by omega) (by decide) ?_
              cases h
              exact s_vret hX hR dX0_perform_173
    · have h := (if_neg c2).symm.trans h
      cases h
      exact s_vret hX hR dX0_perform_43

-- X0_replay
def L_X0_replay_23  : Nat → Int32 → Int32 → fsS → Option (fsS)
  | 0, _, _, _ => none
  | n0 + 1, y1, y2, σ => if y1 ≤ y2 then some σ else fs_g (fs_in y2 40) ((F_X0_perform (σ 12 y2.toNatClampNeg) σ).bind (fun q4 => L_X0_replay_23  n0 y1 (y2 + (1 : Int32)) q4))
def F_X0_replay (x1 : Int32) (σ : fsS) : Option (fsS) := (F_X1_take 5 4 σ).bind (fun q1 => (L_X0_replay_23  fs_fu x1 (0 : Int32) (fs_u (fs_u q1 3 2 (0 : Int32)) 3 3 x1)).bind (fun q5 => some q5))
set_option maxRecDepth 20000 in
set_option maxHeartbeats 4000000 in
theorem l_X0_replay_23   {X : fsC} (hX : fs_ok cX0_replay RX0 3 { frames := 4, cells := 0, slots := 0, locals := 94 } X) : ∀ (n : Nat) (y1 : Int32) (y2 : Int32) (σ : fsS) (μ : fsL) (out : fsS) (_ : L_X0_replay_23  n y1 y2 σ = some out) (k0 : fs_PW X 44 [none, none, none] [] out μ), fs_PW X 23 [some (.ref 3), some (.int y1), some (.int y2)] [] σ μ := by
  intro n
  induction n with
  | zero =>
    intro y1 y2 σ μ out h
    cases (show (none : Option (fsS)) = some out from h)
  | succ n0 ih =>
    intro y1 y2 σ μ out h k0
    unfold L_X0_replay_23 at h
    refine s_iload_n hX dX0_replay_23 rfl ?_
    refine s_iload_n hX dX0_replay_24 rfl ?_
    refine s_ic_ge hX 44 dX0_replay_25 (by decide) (fun c2 => ?_) (fun c2 => ?_)
    · have h := (if_pos c2).symm.trans h
      cases h
      refine fs_ma [false, false, false] ?_
      exact k0
    · have h := (if_neg c2).symm.trans h
      refine s_aload_n hX dX0_replay_28 rfl ?_
      refine s_aload_n hX dX0_replay_29 rfl ?_
      refine s_getr hX dX0_replay_30 f_X0_28 rfl ?_
      refine s_iload_n hX dX0_replay_33 rfl ?_
      obtain ⟨g3, h⟩ := fs_gd h
      refine s_iald hX dX0_replay_34 g3 ?_
      obtain ⟨q4, e4, h⟩ := fs_bind h
      refine s_cV hX [.int (σ 12 y2.toNatClampNeg)] dX0_replay_35 k_X0_58 v_X0_perform (m_X0_perform (σ 12 y2.toNatClampNeg) σ μ q4 e4) ⟨_, rfl⟩ fs_c0 ⟨rfl, rfl⟩ ⟨(Nat.le_of_ble_eq_true rfl), (Nat.le_of_ble_eq_true rfl)⟩ rfl rfl (Nat.le_of_ble_eq_true rfl) ?_
      refine s_iinc hX (y2 + (1 : Int32)) dX0_replay_38 rfl rfl (Nat.le_of_ble_eq_true rfl) ?_
      refine s_goto hX 23 dX0_replay_41 (by decide) ?_
      refine fs_ma [true, true, true] ?_
      exact ih y1 (y2 + (1 : Int32)) q4 μ out h k0
set_option maxRecDepth 20000 in
set_option maxHeartbeats 4000000 in
theorem m_X0_replay (x1 : Int32)  (σ : fsS) (μ : fsL) (out : fsS) (h : F_X0_replay x1 σ = some out) : fs_Met yX0_replay cX0_replay 3 none { frames := 4, cells := 0, slots := 0, locals := 94 } [.ref 3, .int x1] σ μ none out μ := by
  unfold F_X0_replay at h
  refine fs_intro (by decide +kernel) (Nat.le_of_ble_eq_true rfl) (fun X hX hR => ?_)
  show fs_PW X 0 [some (.ref 3), some (.int x1), none] [] σ μ
  refine s_aload_n hX dX0_replay_0 rfl ?_
  refine s_getr hX dX0_replay_1 f_X0_18 rfl ?_
  refine s_aload_n hX dX0_replay_4 rfl ?_
  refine s_getr hX dX0_replay_5 f_X0_12 rfl ?_
  obtain ⟨q1, e1, h⟩ := fs_bind h
  refine s_cV hX [.ref 4] dX0_replay_8 k_X0_46 v_X1_take (m_X1_take 5 4 fs_K5 fs_K4 σ μ q1 e1) (fs_K_is fs_K5) fs_c1 ⟨rfl, rfl⟩ ⟨(Nat.le_of_ble_eq_true rfl), (Nat.le_of_ble_eq_true rfl)⟩ rfl rfl (Nat.le_of_ble_eq_true rfl) ?_
  refine s_aload_n hX dX0_replay_11 rfl ?_
  refine s_ic hX (0 : Int32) dX0_replay_12 (by decide) ?_
  refine s_puti hX dX0_replay_13 p_X0_21 rfl ?_
  refine s_aload_n hX dX0_replay_16 rfl ?_
  refine s_iload_n hX dX0_replay_17 rfl ?_
  refine s_puti hX dX0_replay_18 p_X0_25 rfl ?_
  refine s_ic hX (0 : Int32) dX0_replay_21 (by decide) ?_
  refine s_istore_n hX dX0_replay_22 (Nat.le_of_ble_eq_true rfl) ?_
  obtain ⟨q5, e5, h⟩ := fs_bind h
  refine fs_ma [true, true, true] ?_
  refine l_X0_replay_23  hX fs_fu x1 (0 : Int32) (fs_u (fs_u q1 3 2 (0 : Int32)) 3 3 x1) μ q5 e5 ?_
  cases h
  exact s_vret hX hR dX0_replay_44

-- J7_fill_53178
def L_J7_fill_53178_5 (a0 : Nat) : Nat → Int32 → Int32 → Int32 → fsS → Option (fsS)
  | 0, _, _, _, _ => none
  | n0 + 1, y1, y2, y3, σ => if y3 ≤ y2 then some σ else fs_g (fs_in y2 (fs_len a0)) (L_J7_fill_53178_5 a0 n0 y1 (y2 + (1 : Int32)) y3 (fs_u σ a0 y2.toNatClampNeg y1))
def F_J7_fill_53178 (a0 : Nat) (x1 : Int32) (σ : fsS) : Option (fsS) := fs_g (¬ fs_len a0 = 0) ((L_J7_fill_53178_5 a0 fs_fu x1 (0 : Int32) (Int32.ofNat (fs_len a0)) σ).bind (fun q4 => some q4))
set_option maxRecDepth 20000 in
set_option maxHeartbeats 4000000 in
theorem l_J7_fill_53178_5 {a0 : Nat}  {X : fsC} (hX : fs_ok cJ7_fill_53178 RJ7 4 { frames := 0, cells := 0, slots := 0, locals := 0 } X) : ∀ (n : Nat) (y1 : Int32) (y2 : Int32) (y3 : Int32) (σ : fsS) (μ : fsL) (out : fsS) (_ : L_J7_fill_53178_5 a0 n y1 y2 y3 σ = some out) (k0 : fs_PW X 20 [none, none, none, none] [] out μ), fs_PW X 5 [some (.ref a0), some (.int y1), some (.int y2), some (.int y3)] [] σ μ := by
  intro n
  induction n with
  | zero =>
    intro y1 y2 y3 σ μ out h
    cases (show (none : Option (fsS)) = some out from h)
  | succ n0 ih =>
    intro y1 y2 y3 σ μ out h k0
    unfold L_J7_fill_53178_5 at h
    refine s_iload_n hX dJ7_fill_53178_5 rfl ?_
    refine s_iload_n hX dJ7_fill_53178_6 rfl ?_
    refine s_ic_ge hX 20 dJ7_fill_53178_7 (by decide) (fun c2 => ?_) (fun c2 => ?_)
    · have h := (if_pos c2).symm.trans h
      cases h
      refine fs_ma [false, false, false, false] ?_
      exact k0
    · have h := (if_neg c2).symm.trans h
      refine s_aload_n hX dJ7_fill_53178_10 rfl ?_
      refine s_iload_n hX dJ7_fill_53178_11 rfl ?_
      refine s_iload_n hX dJ7_fill_53178_12 rfl ?_
      obtain ⟨g3, h⟩ := fs_gd h
      refine s_iast hX dJ7_fill_53178_13 g3 ?_
      refine s_iinc hX (y2 + (1 : Int32)) dJ7_fill_53178_14 rfl rfl (Nat.le_of_ble_eq_true rfl) ?_
      refine s_goto hX 5 dJ7_fill_53178_17 (by decide) ?_
      refine fs_ma [true, true, true, true] ?_
      exact ih y1 (y2 + (1 : Int32)) y3 (fs_u σ a0 y2.toNatClampNeg y1) μ out h k0
set_option maxRecDepth 20000 in
set_option maxHeartbeats 4000000 in
theorem m_J7_fill_53178 (a0 : Nat) (x1 : Int32)  (σ : fsS) (μ : fsL) (out : fsS) (h : F_J7_fill_53178 a0 x1 σ = some out) : fs_Met yJ7_fill_53178 cJ7_fill_53178 4 none { frames := 0, cells := 0, slots := 0, locals := 0 } [.ref a0, .int x1] σ μ none out μ := by
  unfold F_J7_fill_53178 at h
  refine fs_intro (by decide +kernel) (Nat.le_of_ble_eq_true rfl) (fun X hX hR => ?_)
  show fs_PW X 0 [some (.ref a0), some (.int x1), none, none] [] σ μ
  refine s_ic hX (0 : Int32) dJ7_fill_53178_0 (by decide) ?_
  refine s_istore_n hX dJ7_fill_53178_1 (Nat.le_of_ble_eq_true rfl) ?_
  refine s_aload_n hX dJ7_fill_53178_2 rfl ?_
  obtain ⟨g1, h⟩ := fs_gd h
  refine s_alen hX dJ7_fill_53178_3 g1 ?_
  refine s_istore_n hX dJ7_fill_53178_4 (Nat.le_of_ble_eq_true rfl) ?_
  obtain ⟨q4, e4, h⟩ := fs_bind h
  refine fs_ma [true, true, true, true] ?_
  refine l_J7_fill_53178_5  hX fs_fu x1 (0 : Int32) (Int32.ofNat (fs_len a0)) σ μ q4 e4 ?_
  cases h
  exact s_vret hX hR dJ7_fill_53178_20

-- X0_found
def F_X0_found (o1 : Nat) (σ : fsS) : Option (fsS) := (F_X1_take 4 o1 σ).bind (fun q1 => (F_X0_replay (0 : Int32) q1).bind (fun q2 => (F_J7_fill_53178 13 (-1 : Int32) q2).bind (fun q3 => some q3)))
set_option maxRecDepth 20000 in
set_option maxHeartbeats 4000000 in
theorem m_X0_found (o1 : Nat) (ho1 : fs_K o1) (σ : fsS) (μ : fsL) (out : fsS) (h : F_X0_found o1 σ = some out) : fs_Met yX0_found cX0_found 2 none { frames := 5, cells := 0, slots := 0, locals := 116 } [.ref 3, .ref o1] σ μ none out μ := by
  unfold F_X0_found at h
  refine fs_intro (by decide +kernel) (Nat.le_of_ble_eq_true rfl) (fun X hX hR => ?_)
  show fs_PW X 0 [some (.ref 3), some (.ref o1)] [] σ μ
  refine s_aload_n hX dX0_found_0 rfl ?_
  refine s_getr hX dX0_found_1 f_X0_12 rfl ?_
  refine s_aload_n hX dX0_found_4 rfl ?_
  obtain ⟨q1, e1, h⟩ := fs_bind h
  refine s_cV hX [.ref o1] dX0_found_5 k_X0_46 v_X1_take (m_X1_take 4 o1 fs_K4 ho1 σ μ q1 e1) (fs_K_is fs_K4) fs_c1 ⟨rfl, rfl⟩ ⟨(Nat.le_of_ble_eq_true rfl), (Nat.le_of_ble_eq_true rfl)⟩ rfl rfl (Nat.le_of_ble_eq_true rfl) ?_
  refine s_aload_n hX dX0_found_8 rfl ?_
  refine s_ic hX (0 : Int32) dX0_found_9 (by decide) ?_
  obtain ⟨q2, e2, h⟩ := fs_bind h
  refine s_cV hX [.int (0 : Int32)] dX0_found_10 k_X0_50 v_X0_replay (m_X0_replay (0 : Int32) q1 μ q2 e2) ⟨_, rfl⟩ fs_c0 ⟨rfl, rfl⟩ ⟨(Nat.le_of_ble_eq_true rfl), (Nat.le_of_ble_eq_true rfl)⟩ rfl rfl (Nat.le_of_ble_eq_true rfl) ?_
  refine s_aload_n hX dX0_found_13 rfl ?_
  refine s_getr hX dX0_found_14 f_X0_37 rfl ?_
  refine s_ic hX (-1 : Int32) dX0_found_17 (by decide) ?_
  obtain ⟨q3, e3, h⟩ := fs_bind h
  refine s_callS hX (as := [.ref 13, .int (-1 : Int32)]) dX0_found_18 k_X0_40 v_J7_fill_53178 (m_J7_fill_53178 13 (-1 : Int32) q2 μ q3 e3) ⟨rfl, rfl⟩ ⟨(Nat.le_of_ble_eq_true rfl), (Nat.le_of_ble_eq_true rfl)⟩ rfl rfl (Nat.le_of_ble_eq_true rfl) ?_
  cases h
  exact s_vret hX hR dX0_found_21

-- X0_deed
def F_X0_deed (x0 : Int32) (x1 : Int32) (x2 : Int32) (x3 : Int32) : Int32 := (((x0 ||| (x1 <<< ((3 : Int32) &&& 31))) ||| (x2 <<< ((6 : Int32) &&& 31))) ||| (x3 <<< ((9 : Int32) &&& 31)))
set_option maxRecDepth 20000 in
set_option maxHeartbeats 4000000 in
theorem m_X0_deed (x0 : Int32) (x1 : Int32) (x2 : Int32) (x3 : Int32)  (σ : fsS) (μ : fsL) (out : Int32) (h : F_X0_deed x0 x1 x2 x3 = out) : fs_Met yX0_deed cX0_deed 4 (some .int) { frames := 0, cells := 0, slots := 0, locals := 0 } [.int x0, .int x1, .int x2, .int x3] σ μ (some (.int out)) σ μ := by
  unfold F_X0_deed at h
  refine fs_intro (by decide +kernel) (Nat.le_of_ble_eq_true rfl) (fun X hX hR => ?_)
  show fs_PW X 0 [some (.int x0), some (.int x1), some (.int x2), some (.int x3)] [] σ μ
  refine s_iload_n hX dX0_deed_0 rfl ?_
  refine s_iload_n hX dX0_deed_1 rfl ?_
  refine s_ic hX (3 : Int32) dX0_deed_2 (by decide) ?_
  refine s_ishl hX dX0_deed_3 ?_
  refine s_ior hX dX0_deed_4 ?_
  refine s_iload_n hX dX0_deed_5 rfl ?_
  refine s_bi hX (6 : Int32) dX0_deed_6 (by decide) ?_
  refine s_ishl hX dX0_deed_8 ?_
  refine s_ior hX dX0_deed_9 ?_
  refine s_iload_n hX dX0_deed_10 rfl ?_
  refine s_bi hX (9 : Int32) dX0_deed_11 (by decide) ?_
  refine s_ishl hX dX0_deed_13 ?_
  refine s_ior hX dX0_deed_14 ?_
  subst h
  exact s_iret hX hR dX0_deed_15

-- X0_wouldOverflow
def F_X0_wouldOverflow (x1 : Int32) (σ : fsS) : Int32 := if x1 ≤ ((40 : Int32) - (σ 3 3)) then (0 : Int32) else (1 : Int32)
theorem z_X0_wouldOverflow (x1 : Int32) (σ : fsS) : F_X0_wouldOverflow x1 σ = 0 ∨ F_X0_wouldOverflow x1 σ = 1 := by
  unfold F_X0_wouldOverflow
  (repeat' split) <;> first | exact Or.inl rfl | exact Or.inr rfl
set_option maxRecDepth 20000 in
set_option maxHeartbeats 4000000 in
theorem m_X0_wouldOverflow (x1 : Int32)  (σ : fsS) (μ : fsL) (out : Int32) (h : F_X0_wouldOverflow x1 σ = out) : fs_Met yX0_wouldOverflow cX0_wouldOverflow 2 (some .boolean) { frames := 0, cells := 0, slots := 0, locals := 0 } [.ref 3, .int x1] σ μ (some (.int out)) σ μ := by
  unfold F_X0_wouldOverflow at h
  refine fs_intro (by decide +kernel) (Nat.le_of_ble_eq_true rfl) (fun X hX hR => ?_)
  show fs_PW X 0 [some (.ref 3), some (.int x1)] [] σ μ
  refine s_iload_n hX dX0_wouldOverflow_0 rfl ?_
  refine s_bi hX (40 : Int32) dX0_wouldOverflow_1 (by decide) ?_
  refine s_aload_n hX dX0_wouldOverflow_3 rfl ?_
  refine s_geti hX dX0_wouldOverflow_4 f_X0_25 rfl ?_
  refine s_isub hX dX0_wouldOverflow_7 ?_
  refine s_ic_le hX 15 dX0_wouldOverflow_8 (by decide) (fun c1 => ?_) (fun c1 => ?_)
  · have h := (if_pos c1).symm.trans h
    refine s_ic hX (0 : Int32) dX0_wouldOverflow_15 (by decide) ?_
    subst h
    exact s_zret hX (Or.inl rfl) hR dX0_wouldOverflow_16
  · have h := (if_neg c1).symm.trans h
    refine s_ic hX (1 : Int32) dX0_wouldOverflow_11 (by decide) ?_
    refine s_goto hX 16 dX0_wouldOverflow_12 (by decide) ?_
    subst h
    exact s_zret hX (Or.inr rfl) hR dX0_wouldOverflow_16

-- X0_enter
def F_X0_enter (x1 : Int32) (σ : fsS) : Option (fsS) := if (F_X0_wouldOverflow (1 : Int32) σ) = 0 then fs_g (fs_in (σ 3 3) 40) ((F_X0_perform x1 (fs_u (fs_u σ 12 (σ 3 3).toNatClampNeg x1) 3 3 ((σ 3 3) + (1 : Int32)))).bind (fun q3 => some q3)) else some σ
set_option maxRecDepth 20000 in
set_option maxHeartbeats 4000000 in
theorem m_X0_enter (x1 : Int32)  (σ : fsS) (μ : fsL) (out : fsS) (h : F_X0_enter x1 σ = some out) : fs_Met yX0_enter cX0_enter 2 none { frames := 4, cells := 0, slots := 0, locals := 94 } [.ref 3, .int x1] σ μ none out μ := by
  unfold F_X0_enter at h
  refine fs_intro (by decide +kernel) (Nat.le_of_ble_eq_true rfl) (fun X hX hR => ?_)
  show fs_PW X 0 [some (.ref 3), some (.int x1)] [] σ μ
  refine s_aload_n hX dX0_enter_0 rfl ?_
  refine s_ic hX (1 : Int32) dX0_enter_1 (by decide) ?_
  refine s_cV hX [.int (1 : Int32)] dX0_enter_2 k_X0_54 v_X0_wouldOverflow (m_X0_wouldOverflow (1 : Int32) σ μ _ rfl) ⟨_, rfl⟩ fs_c0 ⟨rfl, rfl⟩ ⟨(Nat.le_of_ble_eq_true rfl), (Nat.le_of_ble_eq_true rfl)⟩ rfl rfl (Nat.le_of_ble_eq_true rfl) ?_
  refine s_if_eq hX 9 dX0_enter_5 (by decide) (fun c1 => ?_) (fun c1 => ?_)
  · have h := (if_pos c1).symm.trans h
    refine s_aload_n hX dX0_enter_9 rfl ?_
    refine s_getr hX dX0_enter_10 f_X0_28 rfl ?_
    refine s_aload_n hX dX0_enter_13 rfl ?_
    refine s_geti hX dX0_enter_14 f_X0_25 rfl ?_
    refine s_iload_n hX dX0_enter_17 rfl ?_
    obtain ⟨g2, h⟩ := fs_gd h
    refine s_iast hX dX0_enter_18 g2 ?_
    refine s_aload_n hX dX0_enter_19 rfl ?_
    refine s_dup hX dX0_enter_20 rfl ?_
    refine s_geti hX dX0_enter_21 f_X0_25 rfl ?_
    refine s_ic hX (1 : Int32) dX0_enter_24 (by decide) ?_
    refine s_iadd hX dX0_enter_25 ?_
    refine s_puti hX dX0_enter_26 p_X0_25 rfl ?_
    refine s_aload_n hX dX0_enter_29 rfl ?_
    refine s_iload_n hX dX0_enter_30 rfl ?_
    obtain ⟨q3, e3, h⟩ := fs_bind h
    refine s_cV hX [.int x1] dX0_enter_31 k_X0_58 v_X0_perform (m_X0_perform x1 (fs_u (fs_u σ 12 (σ 3 3).toNatClampNeg x1) 3 3 ((σ 3 3) + (1 : Int32))) μ q3 e3) ⟨_, rfl⟩ fs_c0 ⟨rfl, rfl⟩ ⟨(Nat.le_of_ble_eq_true rfl), (Nat.le_of_ble_eq_true rfl)⟩ rfl rfl (Nat.le_of_ble_eq_true rfl) ?_
    cases h
    exact s_vret hX hR dX0_enter_34
  · have h := (if_neg c1).symm.trans h
    cases h
    exact s_vret hX hR dX0_enter_8

-- X0_store
def F_X0_store (x1 : Int32) (σ : fsS) : Option (fsS) := fs_g (fs_in x1 3) (fs_g (fs_cp 12 (48 + x1.toNatClampNeg) (0 : Int32) (0 : Int32) (40 : Int32)) (fs_g (fs_in x1 3) (some (fs_u (fs_cy σ 12 (48 + x1.toNatClampNeg) (0 : Int32) (0 : Int32) (40 : Int32)) 13 x1.toNatClampNeg ((fs_cy σ 12 (48 + x1.toNatClampNeg) (0 : Int32) (0 : Int32) (40 : Int32)) 3 3)))))
set_option maxRecDepth 20000 in
set_option maxHeartbeats 4000000 in
theorem m_X0_store (x1 : Int32)  (σ : fsS) (μ : fsL) (out : fsS) (h : F_X0_store x1 σ = some out) : fs_Met yX0_store cX0_store 2 none { frames := 1, cells := 0, slots := 0, locals := 26 } [.ref 3, .int x1] σ μ none out μ := by
  unfold F_X0_store at h
  refine fs_intro (by decide +kernel) (Nat.le_of_ble_eq_true rfl) (fun X hX hR => ?_)
  show fs_PW X 0 [some (.ref 3), some (.int x1)] [] σ μ
  refine s_aload_n hX dX0_store_0 rfl ?_
  refine s_getr hX dX0_store_1 f_X0_28 rfl ?_
  refine s_ic hX (0 : Int32) dX0_store_4 (by decide) ?_
  refine s_aload_n hX dX0_store_5 rfl ?_
  refine s_getr hX dX0_store_6 f_X0_34 rfl ?_
  refine s_iload_n hX dX0_store_9 rfl ?_
  obtain ⟨g1, h⟩ := fs_gd h
  refine s_aald hX dX0_store_10 g1 ?_
  refine s_ic hX (0 : Int32) dX0_store_11 (by decide) ?_
  refine s_bi hX (40 : Int32) dX0_store_12 (by decide) ?_
  obtain ⟨g2, h⟩ := fs_gd h
  refine s_ac hX dX0_store_14 k_X0_80 g2 rfl (Nat.le_of_ble_eq_true rfl) (Nat.le_of_ble_eq_true rfl) ?_
  refine s_aload_n hX dX0_store_17 rfl ?_
  refine s_getr hX dX0_store_18 f_X0_37 rfl ?_
  refine s_iload_n hX dX0_store_21 rfl ?_
  refine s_aload_n hX dX0_store_22 rfl ?_
  refine s_geti hX dX0_store_23 f_X0_25 rfl ?_
  obtain ⟨g3, h⟩ := fs_gd h
  refine s_iast hX dX0_store_26 g3 ?_
  cases h
  exact s_vret hX hR dX0_store_27
end
