section
-- ===== PART A: goes FIRST, ahead of the names: the tables' words, and 'selects' of the private methods out of them =====
/-- a private method of a class that the tables say can be made, by its rows of tables_1 -/
def lw_okq (q : MethodName × Nat) : Prop := (q.1.cls ≠ "java/lang/invoke/MethodHandle" ∧ q.1.cls ≠ "java/lang/invoke/VarHandle") ∧ Cond.instantiable q.1.cls q.2 ∈ tables_1 ∧ Cond.privateMethod q.1 ∈ tables_1 ∧ Cond.instanceMethod q.1 ∈ tables_1
theorem lw_p0 : lw_okq (⟨"ConeRounds", "finding", "(I)I"⟩, 11) := ⟨⟨by decide +kernel, by decide +kernel⟩, List.mem_of_getElem? (i := 13) (by decide +kernel), List.mem_of_getElem? (i := 187) (by decide +kernel), List.mem_of_getElem? (i := 188) (by decide +kernel)⟩
theorem lw_p1 : lw_okq (⟨"ConeRounds", "vanNumber", "(I)LConeRounds$Van;"⟩, 11) := ⟨⟨by decide +kernel, by decide +kernel⟩, List.mem_of_getElem? (i := 13) (by decide +kernel), List.mem_of_getElem? (i := 285) (by decide +kernel), List.mem_of_getElem? (i := 286) (by decide +kernel)⟩
theorem lw_p2 : lw_okq (⟨"ConeRounds", "mayStand", "(LConeRounds$Van;II)Z"⟩, 11) := ⟨⟨by decide +kernel, by decide +kernel⟩, List.mem_of_getElem? (i := 13) (by decide +kernel), List.mem_of_getElem? (i := 309) (by decide +kernel), List.mem_of_getElem? (i := 310) (by decide +kernel)⟩
theorem lw_p3 : lw_okq (⟨"ConeRounds", "isBarred", "(II)Z"⟩, 11) := ⟨⟨by decide +kernel, by decide +kernel⟩, List.mem_of_getElem? (i := 13) (by decide +kernel), List.mem_of_getElem? (i := 320) (by decide +kernel), List.mem_of_getElem? (i := 321) (by decide +kernel)⟩
theorem lw_p4 : lw_okq (⟨"ConeRounds", "makePlan", "(III)I"⟩, 11) := ⟨⟨by decide +kernel, by decide +kernel⟩, List.mem_of_getElem? (i := 13) (by decide +kernel), List.mem_of_getElem? (i := 341) (by decide +kernel), List.mem_of_getElem? (i := 342) (by decide +kernel)⟩
theorem lw_p5 : lw_okq (⟨"ConeRounds", "isPlace", "(I)Z"⟩, 11) := ⟨⟨by decide +kernel, by decide +kernel⟩, List.mem_of_getElem? (i := 13) (by decide +kernel), List.mem_of_getElem? (i := 345) (by decide +kernel), List.mem_of_getElem? (i := 346) (by decide +kernel)⟩
theorem lw_p6 : lw_okq (⟨"ConeRounds", "explore", "(LConeRounds$Van;III)V"⟩, 11) := ⟨⟨by decide +kernel, by decide +kernel⟩, List.mem_of_getElem? (i := 13) (by decide +kernel), List.mem_of_getElem? (i := 363) (by decide +kernel), List.mem_of_getElem? (i := 364) (by decide +kernel)⟩
theorem lw_p7 : lw_okq (⟨"ConeRounds$Trail", "wasLatelyIn", "(II)Z"⟩, 5) := ⟨⟨by decide +kernel, by decide +kernel⟩, List.mem_of_getElem? (i := 69) (by decide +kernel), List.mem_of_getElem? (i := 375) (by decide +kernel), List.mem_of_getElem? (i := 376) (by decide +kernel)⟩
theorem lw_p8 : lw_okq (⟨"ConeRounds", "hoursBetween", "(LConeRounds$Van;II)I"⟩, 11) := ⟨⟨by decide +kernel, by decide +kernel⟩, List.mem_of_getElem? (i := 13) (by decide +kernel), List.mem_of_getElem? (i := 405) (by decide +kernel), List.mem_of_getElem? (i := 406) (by decide +kernel)⟩
theorem lw_p9 : lw_okq (⟨"ConeRounds", "faultOf", "(I)I"⟩, 11) := ⟨⟨by decide +kernel, by decide +kernel⟩, List.mem_of_getElem? (i := 13) (by decide +kernel), List.mem_of_getElem? (i := 459) (by decide +kernel), List.mem_of_getElem? (i := 460) (by decide +kernel)⟩
theorem lw_p10 : lw_okq (⟨"ConeRounds", "isTooSoon", "(LConeRounds$Van;I)Z"⟩, 11) := ⟨⟨by decide +kernel, by decide +kernel⟩, List.mem_of_getElem? (i := 13) (by decide +kernel), List.mem_of_getElem? (i := 463) (by decide +kernel), List.mem_of_getElem? (i := 464) (by decide +kernel)⟩
theorem lw_p11 : lw_okq (⟨"ConeRounds", "holderOf", "(I)I"⟩, 11) := ⟨⟨by decide +kernel, by decide +kernel⟩, List.mem_of_getElem? (i := 13) (by decide +kernel), List.mem_of_getElem? (i := 479) (by decide +kernel), List.mem_of_getElem? (i := 480) (by decide +kernel)⟩
theorem lw_p12 : lw_okq (⟨"ConeRounds", "isPair", "(I)Z"⟩, 11) := ⟨⟨by decide +kernel, by decide +kernel⟩, List.mem_of_getElem? (i := 13) (by decide +kernel), List.mem_of_getElem? (i := 491) (by decide +kernel), List.mem_of_getElem? (i := 492) (by decide +kernel)⟩
theorem lw_p13 : lw_okq (⟨"ConeRounds", "shareOf", "(IIIII)I"⟩, 11) := ⟨⟨by decide +kernel, by decide +kernel⟩, List.mem_of_getElem? (i := 13) (by decide +kernel), List.mem_of_getElem? (i := 495) (by decide +kernel), List.mem_of_getElem? (i := 496) (by decide +kernel)⟩
theorem lw_p14 : lw_okq (⟨"ConeRounds", "areTwoVans", "(II)Z"⟩, 11) := ⟨⟨by decide +kernel, by decide +kernel⟩, List.mem_of_getElem? (i := 13) (by decide +kernel), List.mem_of_getElem? (i := 503) (by decide +kernel), List.mem_of_getElem? (i := 504) (by decide +kernel)⟩
theorem lw_p15 : lw_okq (⟨"ConeRounds", "isBalance", "(IIIII)Z"⟩, 11) := ⟨⟨by decide +kernel, by decide +kernel⟩, List.mem_of_getElem? (i := 13) (by decide +kernel), List.mem_of_getElem? (i := 507) (by decide +kernel), List.mem_of_getElem? (i := 508) (by decide +kernel)⟩
def lw_privs_1 : List (MethodName × Nat) := [(⟨"ConeRounds", "finding", "(I)I"⟩, 11), (⟨"ConeRounds", "vanNumber", "(I)LConeRounds$Van;"⟩, 11), (⟨"ConeRounds", "mayStand", "(LConeRounds$Van;II)Z"⟩, 11), (⟨"ConeRounds", "isBarred", "(II)Z"⟩, 11), (⟨"ConeRounds", "makePlan", "(III)I"⟩, 11), (⟨"ConeRounds", "isPlace", "(I)Z"⟩, 11), (⟨"ConeRounds", "explore", "(LConeRounds$Van;III)V"⟩, 11), (⟨"ConeRounds$Trail", "wasLatelyIn", "(II)Z"⟩, 5), (⟨"ConeRounds", "hoursBetween", "(LConeRounds$Van;II)I"⟩, 11), (⟨"ConeRounds", "faultOf", "(I)I"⟩, 11), (⟨"ConeRounds", "isTooSoon", "(LConeRounds$Van;I)Z"⟩, 11), (⟨"ConeRounds", "holderOf", "(I)I"⟩, 11), (⟨"ConeRounds", "isPair", "(I)Z"⟩, 11), (⟨"ConeRounds", "shareOf", "(IIIII)I"⟩, 11), (⟨"ConeRounds", "areTwoVans", "(II)Z"⟩, 11), (⟨"ConeRounds", "isBalance", "(IIIII)Z"⟩, 11)]
theorem lw_r1 : ∀ q ∈ lw_privs_1, lw_okq q := List.forall_mem_cons.mpr ⟨lw_p0, List.forall_mem_cons.mpr ⟨lw_p1, List.forall_mem_cons.mpr ⟨lw_p2, List.forall_mem_cons.mpr ⟨lw_p3, List.forall_mem_cons.mpr ⟨lw_p4, List.forall_mem_cons.mpr ⟨lw_p5, List.forall_mem_cons.mpr ⟨lw_p6, List.forall_mem_cons.mpr ⟨lw_p7, List.forall_mem_cons.mpr ⟨lw_p8, List.forall_mem_cons.mpr ⟨lw_p9, List.forall_mem_cons.mpr ⟨lw_p10, List.forall_mem_cons.mpr ⟨lw_p11, List.forall_mem_cons.mpr ⟨lw_p12, List.forall_mem_cons.mpr ⟨lw_p13, List.forall_mem_cons.mpr ⟨lw_p14, List.forall_mem_cons.mpr ⟨lw_p15, fun _ h => absurd h List.not_mem_nil⟩⟩⟩⟩⟩⟩⟩⟩⟩⟩⟩⟩⟩⟩⟩⟩
theorem lw_p16 : lw_okq (⟨"ConeRounds", "isContent", "(IIIII)Z"⟩, 11) := ⟨⟨by decide +kernel, by decide +kernel⟩, List.mem_of_getElem? (i := 13) (by decide +kernel), List.mem_of_getElem? (i := 511) (by decide +kernel), List.mem_of_getElem? (i := 512) (by decide +kernel)⟩
theorem lw_p17 : lw_okq (⟨"ConeRounds", "walkTold", "(LConeRounds$Van;I)Z"⟩, 11) := ⟨⟨by decide +kernel, by decide +kernel⟩, List.mem_of_getElem? (i := 13) (by decide +kernel), List.mem_of_getElem? (i := 567) (by decide +kernel), List.mem_of_getElem? (i := 568) (by decide +kernel)⟩
theorem lw_p18 : lw_okq (⟨"ConeRounds", "goesOn", "(LConeRounds$Van;II)Z"⟩, 11) := ⟨⟨by decide +kernel, by decide +kernel⟩, List.mem_of_getElem? (i := 13) (by decide +kernel), List.mem_of_getElem? (i := 571) (by decide +kernel), List.mem_of_getElem? (i := 572) (by decide +kernel)⟩
theorem lw_p19 : lw_okq (⟨"ConeRounds", "stockOfAll", "()I"⟩, 11) := ⟨⟨by decide +kernel, by decide +kernel⟩, List.mem_of_getElem? (i := 13) (by decide +kernel), List.mem_of_getElem? (i := 579) (by decide +kernel), List.mem_of_getElem? (i := 580) (by decide +kernel)⟩
theorem lw_p20 : lw_okq (⟨"ConeRoundsModel", "finds", "(I)I"⟩, 35) := ⟨⟨by decide +kernel, by decide +kernel⟩, List.mem_of_getElem? (i := 587) (by decide +kernel), List.mem_of_getElem? (i := 706) (by decide +kernel), List.mem_of_getElem? (i := 707) (by decide +kernel)⟩
theorem lw_p21 : lw_okq (⟨"ConeRoundsModel", "isStreet", "(I)Z"⟩, 35) := ⟨⟨by decide +kernel, by decide +kernel⟩, List.mem_of_getElem? (i := 587) (by decide +kernel), List.mem_of_getElem? (i := 715) (by decide +kernel), List.mem_of_getElem? (i := 716) (by decide +kernel)⟩
theorem lw_p22 : lw_okq (⟨"ConeRoundsModel", "isVan", "(I)Z"⟩, 35) := ⟨⟨by decide +kernel, by decide +kernel⟩, List.mem_of_getElem? (i := 587) (by decide +kernel), List.mem_of_getElem? (i := 738) (by decide +kernel), List.mem_of_getElem? (i := 739) (by decide +kernel)⟩
theorem lw_p23 : lw_okq (⟨"ConeRoundsModel", "mayStand", "(III)Z"⟩, 35) := ⟨⟨by decide +kernel, by decide +kernel⟩, List.mem_of_getElem? (i := 587) (by decide +kernel), List.mem_of_getElem? (i := 758) (by decide +kernel), List.mem_of_getElem? (i := 759) (by decide +kernel)⟩
theorem lw_p24 : lw_okq (⟨"ConeRoundsModel", "isLicensed", "(II)Z"⟩, 35) := ⟨⟨by decide +kernel, by decide +kernel⟩, List.mem_of_getElem? (i := 587) (by decide +kernel), List.mem_of_getElem? (i := 762) (by decide +kernel), List.mem_of_getElem? (i := 763) (by decide +kernel)⟩
theorem lw_p25 : lw_okq (⟨"ConeRoundsModel", "isBarred", "(II)Z"⟩, 35) := ⟨⟨by decide +kernel, by decide +kernel⟩, List.mem_of_getElem? (i := 587) (by decide +kernel), List.mem_of_getElem? (i := 766) (by decide +kernel), List.mem_of_getElem? (i := 767) (by decide +kernel)⟩
theorem lw_p26 : lw_okq (⟨"ConeRoundsModel", "worthOf", "(II)I"⟩, 35) := ⟨⟨by decide +kernel, by decide +kernel⟩, List.mem_of_getElem? (i := 587) (by decide +kernel), List.mem_of_getElem? (i := 774) (by decide +kernel), List.mem_of_getElem? (i := 775) (by decide +kernel)⟩
theorem lw_p27 : lw_okq (⟨"ConeRoundsModel", "whyNot", "(III)I"⟩, 35) := ⟨⟨by decide +kernel, by decide +kernel⟩, List.mem_of_getElem? (i := 587) (by decide +kernel), List.mem_of_getElem? (i := 782) (by decide +kernel), List.mem_of_getElem? (i := 783) (by decide +kernel)⟩
theorem lw_p28 : lw_okq (⟨"ConeRoundsModel", "isAt", "(I)Z"⟩, 35) := ⟨⟨by decide +kernel, by decide +kernel⟩, List.mem_of_getElem? (i := 587) (by decide +kernel), List.mem_of_getElem? (i := 786) (by decide +kernel), List.mem_of_getElem? (i := 787) (by decide +kernel)⟩
theorem lw_p29 : lw_okq (⟨"ConeRoundsModel", "findPlan", "(III)V"⟩, 35) := ⟨⟨by decide +kernel, by decide +kernel⟩, List.mem_of_getElem? (i := 587) (by decide +kernel), List.mem_of_getElem? (i := 790) (by decide +kernel), List.mem_of_getElem? (i := 791) (by decide +kernel)⟩
theorem lw_p30 : lw_okq (⟨"ConeRoundsModel", "sells", "(II)V"⟩, 35) := ⟨⟨by decide +kernel, by decide +kernel⟩, List.mem_of_getElem? (i := 587) (by decide +kernel), List.mem_of_getElem? (i := 794) (by decide +kernel), List.mem_of_getElem? (i := 795) (by decide +kernel)⟩
theorem lw_p31 : lw_okq (⟨"ConeRoundsModel", "note", "(I)V"⟩, 35) := ⟨⟨by decide +kernel, by decide +kernel⟩, List.mem_of_getElem? (i := 587) (by decide +kernel), List.mem_of_getElem? (i := 798) (by decide +kernel), List.mem_of_getElem? (i := 799) (by decide +kernel)⟩
def lw_privs_2 : List (MethodName × Nat) := [(⟨"ConeRounds", "isContent", "(IIIII)Z"⟩, 11), (⟨"ConeRounds", "walkTold", "(LConeRounds$Van;I)Z"⟩, 11), (⟨"ConeRounds", "goesOn", "(LConeRounds$Van;II)Z"⟩, 11), (⟨"ConeRounds", "stockOfAll", "()I"⟩, 11), (⟨"ConeRoundsModel", "finds", "(I)I"⟩, 35), (⟨"ConeRoundsModel", "isStreet", "(I)Z"⟩, 35), (⟨"ConeRoundsModel", "isVan", "(I)Z"⟩, 35), (⟨"ConeRoundsModel", "mayStand", "(III)Z"⟩, 35), (⟨"ConeRoundsModel", "isLicensed", "(II)Z"⟩, 35), (⟨"ConeRoundsModel", "isBarred", "(II)Z"⟩, 35), (⟨"ConeRoundsModel", "worthOf", "(II)I"⟩, 35), (⟨"ConeRoundsModel", "whyNot", "(III)I"⟩, 35), (⟨"ConeRoundsModel", "isAt", "(I)Z"⟩, 35), (⟨"ConeRoundsModel", "findPlan", "(III)V"⟩, 35), (⟨"ConeRoundsModel", "sells", "(II)V"⟩, 35), (⟨"ConeRoundsModel", "note", "(I)V"⟩, 35)]
theorem lw_r2 : ∀ q ∈ lw_privs_2, lw_okq q := List.forall_mem_cons.mpr ⟨lw_p16, List.forall_mem_cons.mpr ⟨lw_p17, List.forall_mem_cons.mpr ⟨lw_p18, List.forall_mem_cons.mpr ⟨lw_p19, List.forall_mem_cons.mpr ⟨lw_p20, List.forall_mem_cons.mpr ⟨lw_p21, List.forall_mem_cons.mpr ⟨lw_p22, List.forall_mem_cons.mpr ⟨lw_p23, List.forall_mem_cons.mpr ⟨lw_p24, List.forall_mem_cons.mpr ⟨lw_p25, List.forall_mem_cons.mpr ⟨lw_p26, List.forall_mem_cons.mpr ⟨lw_p27, List.forall_mem_cons.mpr ⟨lw_p28, List.forall_mem_cons.mpr ⟨lw_p29, List.forall_mem_cons.mpr ⟨lw_p30, List.forall_mem_cons.mpr ⟨lw_p31, fun _ h => absurd h List.not_mem_nil⟩⟩⟩⟩⟩⟩⟩⟩⟩⟩⟩⟩⟩⟩⟩⟩
theorem lw_p32 : lw_okq (⟨"ConeRoundsModel", "later", "(III)I"⟩, 35) := ⟨⟨by decide +kernel, by decide +kernel⟩, List.mem_of_getElem? (i := 587) (by decide +kernel), List.mem_of_getElem? (i := 802) (by decide +kernel), List.mem_of_getElem? (i := 803) (by decide +kernel)⟩
theorem lw_p33 : lw_okq (⟨"ConeRoundsModel", "ahead", "(II)I"⟩, 35) := ⟨⟨by decide +kernel, by decide +kernel⟩, List.mem_of_getElem? (i := 587) (by decide +kernel), List.mem_of_getElem? (i := 818) (by decide +kernel), List.mem_of_getElem? (i := 819) (by decide +kernel)⟩
theorem lw_p34 : lw_okq (⟨"ConeRoundsModel", "wrongOf", "(I)I"⟩, 35) := ⟨⟨by decide +kernel, by decide +kernel⟩, List.mem_of_getElem? (i := 587) (by decide +kernel), List.mem_of_getElem? (i := 826) (by decide +kernel), List.mem_of_getElem? (i := 827) (by decide +kernel)⟩
theorem lw_p35 : lw_okq (⟨"ConeRoundsModel", "holderOf", "(I)I"⟩, 35) := ⟨⟨by decide +kernel, by decide +kernel⟩, List.mem_of_getElem? (i := 587) (by decide +kernel), List.mem_of_getElem? (i := 838) (by decide +kernel), List.mem_of_getElem? (i := 839) (by decide +kernel)⟩
theorem lw_p36 : lw_okq (⟨"ConeRoundsModel", "getsOf", "(IIIII)I"⟩, 35) := ⟨⟨by decide +kernel, by decide +kernel⟩, List.mem_of_getElem? (i := 587) (by decide +kernel), List.mem_of_getElem? (i := 846) (by decide +kernel), List.mem_of_getElem? (i := 847) (by decide +kernel)⟩
theorem lw_p37 : lw_okq (⟨"ConeRoundsModel", "areTwo", "(III)Z"⟩, 35) := ⟨⟨by decide +kernel, by decide +kernel⟩, List.mem_of_getElem? (i := 587) (by decide +kernel), List.mem_of_getElem? (i := 854) (by decide +kernel), List.mem_of_getElem? (i := 855) (by decide +kernel)⟩
theorem lw_p38 : lw_okq (⟨"ConeRoundsModel", "isBalance", "(IIIII)Z"⟩, 35) := ⟨⟨by decide +kernel, by decide +kernel⟩, List.mem_of_getElem? (i := 587) (by decide +kernel), List.mem_of_getElem? (i := 858) (by decide +kernel), List.mem_of_getElem? (i := 859) (by decide +kernel)⟩
theorem lw_p39 : lw_okq (⟨"ConeRoundsModel", "isBill", "(I)Z"⟩, 35) := ⟨⟨by decide +kernel, by decide +kernel⟩, List.mem_of_getElem? (i := 587) (by decide +kernel), List.mem_of_getElem? (i := 878) (by decide +kernel), List.mem_of_getElem? (i := 879) (by decide +kernel)⟩
theorem lw_p40 : lw_okq (⟨"ConeRoundsModel", "owedOf", "(II)I"⟩, 35) := ⟨⟨by decide +kernel, by decide +kernel⟩, List.mem_of_getElem? (i := 587) (by decide +kernel), List.mem_of_getElem? (i := 886) (by decide +kernel), List.mem_of_getElem? (i := 887) (by decide +kernel)⟩
def lw_privs_3 : List (MethodName × Nat) := [(⟨"ConeRoundsModel", "later", "(III)I"⟩, 35), (⟨"ConeRoundsModel", "ahead", "(II)I"⟩, 35), (⟨"ConeRoundsModel", "wrongOf", "(I)I"⟩, 35), (⟨"ConeRoundsModel", "holderOf", "(I)I"⟩, 35), (⟨"ConeRoundsModel", "getsOf", "(IIIII)I"⟩, 35), (⟨"ConeRoundsModel", "areTwo", "(III)Z"⟩, 35), (⟨"ConeRoundsModel", "isBalance", "(IIIII)Z"⟩, 35), (⟨"ConeRoundsModel", "isBill", "(I)Z"⟩, 35), (⟨"ConeRoundsModel", "owedOf", "(II)I"⟩, 35)]
theorem lw_r3 : ∀ q ∈ lw_privs_3, lw_okq q := List.forall_mem_cons.mpr ⟨lw_p32, List.forall_mem_cons.mpr ⟨lw_p33, List.forall_mem_cons.mpr ⟨lw_p34, List.forall_mem_cons.mpr ⟨lw_p35, List.forall_mem_cons.mpr ⟨lw_p36, List.forall_mem_cons.mpr ⟨lw_p37, List.forall_mem_cons.mpr ⟨lw_p38, List.forall_mem_cons.mpr ⟨lw_p39, List.forall_mem_cons.mpr ⟨lw_p40, fun _ h => absurd h List.not_mem_nil⟩⟩⟩⟩⟩⟩⟩⟩⟩
def lw_privs : List (MethodName × Nat) := lw_privs_1 ++ (lw_privs_2 ++ (lw_privs_3))
def lw_tbl : List Cond := k2_sels lw_privs ++ tables_1
theorem lw_privs_ok : ∀ q ∈ lw_privs, lw_okq q := by
  show ∀ q ∈ lw_privs_1 ++ (lw_privs_2 ++ (lw_privs_3)), lw_okq q
  exact List.forall_mem_append.mpr ⟨lw_r1, List.forall_mem_append.mpr ⟨lw_r2, lw_r3⟩⟩
end
section
abbrev yX8_init : MethodName := ⟨"ConeRounds", "<init>", "()V"⟩
abbrev cX8_init : ByteArray := prog_1_method_1_code
abbrev yX5_init : MethodName := ⟨"ConeRounds$Town", "<init>", "()V"⟩
abbrev cX5_init : ByteArray := prog_7_method_1_code
abbrev yX3_init : MethodName := ⟨"ConeRounds$Law", "<init>", "()V"⟩
abbrev cX3_init : ByteArray := prog_5_method_1_code
abbrev yX6_init : MethodName := ⟨"ConeRounds$Trail", "<init>", "()V"⟩
abbrev cX6_init : ByteArray := prog_8_method_1_code
abbrev yX4_init : MethodName := ⟨"ConeRounds$Stands", "<init>", "()V"⟩
abbrev cX4_init : ByteArray := prog_6_method_1_code
abbrev yX1_init : MethodName := ⟨"ConeRounds$Bills", "<init>", "()V"⟩
abbrev cX1_init : ByteArray := prog_3_method_1_code
abbrev yX8_street : MethodName := ⟨"ConeRounds", "street", "(I)I"⟩
abbrev cX8_street : ByteArray := prog_1_method_2_code
abbrev yX8_finding : MethodName := ⟨"ConeRounds", "finding", "(I)I"⟩
abbrev cX8_finding : ByteArray := prog_1_method_31_code
abbrev yX5_isFull : MethodName := ⟨"ConeRounds$Town", "isFull", "()Z"⟩
abbrev cX5_isFull : ByteArray := prog_7_method_3_code
abbrev yX5_add : MethodName := ⟨"ConeRounds$Town", "add", "(Z)I"⟩
abbrev cX5_add : ByteArray := prog_7_method_4_code
abbrev yX8_way : MethodName := ⟨"ConeRounds", "way", "(III)I"⟩
abbrev cX8_way : ByteArray := prog_1_method_3_code
abbrev yX5_has : MethodName := ⟨"ConeRounds$Town", "has", "(I)Z"⟩
abbrev cX5_has : ByteArray := prog_7_method_2_code
abbrev yX8_isWithin : MethodName := ⟨"ConeRounds", "isWithin", "(II)Z"⟩
abbrev cX8_isWithin : ByteArray := prog_1_method_32_code
abbrev yX5_wayBetween : MethodName := ⟨"ConeRounds$Town", "wayBetween", "(II)I"⟩
abbrev cX5_wayBetween : ByteArray := prog_7_method_5_code
abbrev yX5_setWay : MethodName := ⟨"ConeRounds$Town", "setWay", "(III)V"⟩
abbrev cX5_setWay : ByteArray := prog_7_method_6_code
abbrev yX8_wish : MethodName := ⟨"ConeRounds", "wish", "(III)I"⟩
abbrev cX8_wish : ByteArray := prog_1_method_4_code
abbrev yX8_isHour : MethodName := ⟨"ConeRounds", "isHour", "(I)Z"⟩
abbrev cX8_isHour : ByteArray := prog_1_method_33_code
abbrev yX5_wishAt : MethodName := ⟨"ConeRounds$Town", "wishAt", "(II)I"⟩
abbrev cX5_wishAt : ByteArray := prog_7_method_7_code
abbrev yX5_setWish : MethodName := ⟨"ConeRounds$Town", "setWish", "(III)V"⟩
abbrev cX5_setWish : ByteArray := prog_7_method_8_code
abbrev yX8_heat : MethodName := ⟨"ConeRounds", "heat", "(I)I"⟩
abbrev cX8_heat : ByteArray := prog_1_method_5_code
abbrev yX8_van : MethodName := ⟨"ConeRounds", "van", "(I)I"⟩
abbrev cX8_van : ByteArray := prog_1_method_6_code
abbrev yX8_isKind : MethodName := ⟨"ConeRounds", "isKind", "(I)Z"⟩
abbrev cX8_isKind : ByteArray := prog_1_method_38_code
abbrev yX8_newVan : MethodName := ⟨"ConeRounds", "newVan", "(I)LConeRounds$Van;"⟩
abbrev cX8_newVan : ByteArray := prog_1_method_39_code
abbrev yX0_init : MethodName := ⟨"ConeRounds$Bike", "<init>", "()V"⟩
abbrev cX0_init : ByteArray := prog_2_method_1_code
abbrev yX7_init : MethodName := ⟨"ConeRounds$Van", "<init>", "()V"⟩
abbrev cX7_init : ByteArray := prog_9_method_1_code
abbrev yX2_init : MethodName := ⟨"ConeRounds$Cart", "<init>", "()V"⟩
abbrev cX2_init : ByteArray := prog_4_method_1_code
abbrev yX8_as : MethodName := ⟨"ConeRounds", "as", "(II)I"⟩
abbrev cX8_as : ByteArray := prog_1_method_7_code
abbrev yX8_vanNumber : MethodName := ⟨"ConeRounds", "vanNumber", "(I)LConeRounds$Van;"⟩
abbrev cX8_vanNumber : ByteArray := prog_1_method_41_code
abbrev yX8_isOfKind : MethodName := ⟨"ConeRounds", "isOfKind", "(LConeRounds$Van;I)Z"⟩
abbrev cX8_isOfKind : ByteArray := prog_1_method_40_code
abbrev yX8_stock : MethodName := ⟨"ConeRounds", "stock", "(II)I"⟩
abbrev cX8_stock : ByteArray := prog_1_method_8_code
abbrev yX8_licence : MethodName := ⟨"ConeRounds", "licence", "(II)I"⟩
abbrev cX8_licence : ByteArray := prog_1_method_9_code
abbrev yX8_law : MethodName := ⟨"ConeRounds", "law", "(III)I"⟩
abbrev cX8_law : ByteArray := prog_1_method_10_code
abbrev yX8_may : MethodName := ⟨"ConeRounds", "may", "(III)I"⟩
abbrev cX8_may : ByteArray := prog_1_method_11_code
abbrev yX8_mayStand : MethodName := ⟨"ConeRounds", "mayStand", "(LConeRounds$Van;II)Z"⟩
abbrev cX8_mayStand : ByteArray := prog_1_method_44_code
abbrev yX7_isLicensed : MethodName := ⟨"ConeRounds$Van", "isLicensed", "(I)Z"⟩
abbrev cX7_isLicensed : ByteArray := prog_9_method_2_code
abbrev yX8_isBarred : MethodName := ⟨"ConeRounds", "isBarred", "(II)Z"⟩
abbrev cX8_isBarred : ByteArray := prog_1_method_45_code
abbrev yX3_barsSchoolsAt : MethodName := ⟨"ConeRounds$Law", "barsSchoolsAt", "(I)Z"⟩
abbrev cX3_barsSchoolsAt : ByteArray := prog_5_method_2_code
abbrev yX8_worth : MethodName := ⟨"ConeRounds", "worth", "(II)I"⟩
abbrev cX8_worth : ByteArray := prog_1_method_12_code
abbrev yX5_worthAt : MethodName := ⟨"ConeRounds$Town", "worthAt", "(II)I"⟩
abbrev cX5_worthAt : ByteArray := prog_7_method_9_code
abbrev yX8_plan : MethodName := ⟨"ConeRounds", "plan", "(III)I"⟩
abbrev cX8_plan : ByteArray := prog_1_method_13_code
abbrev yX8_makePlan : MethodName := ⟨"ConeRounds", "makePlan", "(III)I"⟩
abbrev cX8_makePlan : ByteArray := prog_1_method_47_code
abbrev yX8_isPlace : MethodName := ⟨"ConeRounds", "isPlace", "(I)Z"⟩
abbrev cX8_isPlace : ByteArray := prog_1_method_34_code
abbrev yX8_streetOf : MethodName := ⟨"ConeRounds", "streetOf", "(I)I"⟩
abbrev cX8_streetOf : ByteArray := prog_1_method_35_code
abbrev yX8_hourOf : MethodName := ⟨"ConeRounds", "hourOf", "(I)I"⟩
abbrev cX8_hourOf : ByteArray := prog_1_method_36_code
abbrev yX6_begin : MethodName := ⟨"ConeRounds$Trail", "begin", "(I)V"⟩
abbrev cX6_begin : ByteArray := prog_8_method_2_code
abbrev yX8_explore : MethodName := ⟨"ConeRounds", "explore", "(LConeRounds$Van;III)V"⟩
abbrev cX8_explore : ByteArray := prog_1_method_48_code
abbrev yX6_isFull : MethodName := ⟨"ConeRounds$Trail", "isFull", "()Z"⟩
abbrev cX6_isFull : ByteArray := prog_8_method_4_code
abbrev yX6_standIn : MethodName := ⟨"ConeRounds$Trail", "standIn", "(LConeRounds$Van;III)V"⟩
abbrev cX6_standIn : ByteArray := prog_8_method_5_code
abbrev yX6_wasLatelyIn : MethodName := ⟨"ConeRounds$Trail", "wasLatelyIn", "(II)Z"⟩
abbrev cX6_wasLatelyIn : ByteArray := prog_8_method_8_code
abbrev yX0_mostSoldOf : MethodName := ⟨"ConeRounds$Bike", "mostSoldOf", "(I)I"⟩
abbrev cX0_mostSoldOf : ByteArray := prog_2_method_2_code
abbrev yX7_mostSoldOf : MethodName := ⟨"ConeRounds$Van", "mostSoldOf", "(I)I"⟩
abbrev cX7_mostSoldOf : ByteArray := prog_9_method_3_code
abbrev yX0_meltingOf : MethodName := ⟨"ConeRounds$Bike", "meltingOf", "(I)I"⟩
abbrev cX0_meltingOf : ByteArray := prog_2_method_3_code
abbrev yX2_meltingOf : MethodName := ⟨"ConeRounds$Cart", "meltingOf", "(I)I"⟩
abbrev cX2_meltingOf : ByteArray := prog_4_method_2_code
abbrev yX7_meltingOf : MethodName := ⟨"ConeRounds$Van", "meltingOf", "(I)I"⟩
abbrev cX7_meltingOf : ByteArray := prog_9_method_4_code
abbrev yX6_copyFrom : MethodName := ⟨"ConeRounds$Trail", "copyFrom", "(LConeRounds$Trail;)V"⟩
abbrev cX6_copyFrom : ByteArray := prog_8_method_7_code
abbrev yX8_hoursBetween : MethodName := ⟨"ConeRounds", "hoursBetween", "(LConeRounds$Van;II)I"⟩
abbrev cX8_hoursBetween : ByteArray := prog_1_method_46_code
abbrev yX2_hoursAcross : MethodName := ⟨"ConeRounds$Cart", "hoursAcross", "(I)I"⟩
abbrev cX2_hoursAcross : ByteArray := prog_4_method_3_code
abbrev yX7_hoursAcross : MethodName := ⟨"ConeRounds$Van", "hoursAcross", "(I)I"⟩
abbrev cX7_hoursAcross : ByteArray := prog_9_method_5_code
abbrev yX6_stepBack : MethodName := ⟨"ConeRounds$Trail", "stepBack", "(II)V"⟩
abbrev cX6_stepBack : ByteArray := prog_8_method_6_code
abbrev yX8_stop : MethodName := ⟨"ConeRounds", "stop", "(IIII)I"⟩
abbrev cX8_stop : ByteArray := prog_1_method_14_code
abbrev yX6_has : MethodName := ⟨"ConeRounds$Trail", "has", "(I)Z"⟩
abbrev cX6_has : ByteArray := prog_8_method_3_code
abbrev yX8_left : MethodName := ⟨"ConeRounds", "left", "(III)I"⟩
abbrev cX8_left : ByteArray := prog_1_method_15_code
abbrev yX8_stand : MethodName := ⟨"ConeRounds", "stand", "(III)I"⟩
abbrev cX8_stand : ByteArray := prog_1_method_16_code
abbrev yX4_latestAhead : MethodName := ⟨"ConeRounds$Stands", "latestAhead", "(II)I"⟩
abbrev cX4_latestAhead : ByteArray := prog_6_method_5_code
abbrev yX4_has : MethodName := ⟨"ConeRounds$Stands", "has", "(I)Z"⟩
abbrev cX4_has : ByteArray := prog_6_method_2_code
abbrev yX4_isFull : MethodName := ⟨"ConeRounds$Stands", "isFull", "()Z"⟩
abbrev cX4_isFull : ByteArray := prog_6_method_3_code
abbrev yX4_add : MethodName := ⟨"ConeRounds$Stands", "add", "(IIII)I"⟩
abbrev cX4_add : ByteArray := prog_6_method_4_code
abbrev yX8_wrong : MethodName := ⟨"ConeRounds", "wrong", "(I)I"⟩
abbrev cX8_wrong : ByteArray := prog_1_method_17_code
abbrev yX8_faultOf : MethodName := ⟨"ConeRounds", "faultOf", "(I)I"⟩
abbrev cX8_faultOf : ByteArray := prog_1_method_51_code
abbrev yX8_isTooSoon : MethodName := ⟨"ConeRounds", "isTooSoon", "(LConeRounds$Van;I)Z"⟩
abbrev cX8_isTooSoon : ByteArray := prog_1_method_52_code
abbrev yX4_isTaken : MethodName := ⟨"ConeRounds$Stands", "isTaken", "(I)Z"⟩
abbrev cX4_isTaken : ByteArray := prog_6_method_6_code
abbrev yX8_clear : MethodName := ⟨"ConeRounds", "clear", "()I"⟩
abbrev cX8_clear : ByteArray := prog_1_method_18_code
abbrev yX8_holder : MethodName := ⟨"ConeRounds", "holder", "(I)I"⟩
abbrev cX8_holder : ByteArray := prog_1_method_19_code
abbrev yX8_holderOf : MethodName := ⟨"ConeRounds", "holderOf", "(I)I"⟩
abbrev cX8_holderOf : ByteArray := prog_1_method_53_code
abbrev yX4_countOf : MethodName := ⟨"ConeRounds$Stands", "countOf", "(II)I"⟩
abbrev cX4_countOf : ByteArray := prog_6_method_7_code
abbrev yX8_gets : MethodName := ⟨"ConeRounds", "gets", "(IIII)I"⟩
abbrev cX8_gets : ByteArray := prog_1_method_20_code
abbrev yX8_isPair : MethodName := ⟨"ConeRounds", "isPair", "(I)Z"⟩
abbrev cX8_isPair : ByteArray := prog_1_method_37_code
abbrev yX8_shareOf : MethodName := ⟨"ConeRounds", "shareOf", "(IIIII)I"⟩
abbrev cX8_shareOf : ByteArray := prog_1_method_54_code
abbrev yX8_balance : MethodName := ⟨"ConeRounds", "balance", "(IIII)I"⟩
abbrev cX8_balance : ByteArray := prog_1_method_21_code
abbrev yX8_areTwoVans : MethodName := ⟨"ConeRounds", "areTwoVans", "(II)Z"⟩
abbrev cX8_areTwoVans : ByteArray := prog_1_method_42_code
abbrev yX8_isBalance : MethodName := ⟨"ConeRounds", "isBalance", "(IIIII)Z"⟩
abbrev cX8_isBalance : ByteArray := prog_1_method_55_code
abbrev yX8_isContent : MethodName := ⟨"ConeRounds", "isContent", "(IIIII)Z"⟩
abbrev cX8_isContent : ByteArray := prog_1_method_56_code
abbrev yX8_together : MethodName := ⟨"ConeRounds", "together", "(III)I"⟩
abbrev cX8_together : ByteArray := prog_1_method_22_code
abbrev yX8_credit : MethodName := ⟨"ConeRounds", "credit", "(I)I"⟩
abbrev cX8_credit : ByteArray := prog_1_method_23_code
abbrev yX8_bill : MethodName := ⟨"ConeRounds", "bill", "(II)I"⟩
abbrev cX8_bill : ByteArray := prog_1_method_24_code
abbrev yX1_isFull : MethodName := ⟨"ConeRounds$Bills", "isFull", "()Z"⟩
abbrev cX1_isFull : ByteArray := prog_3_method_3_code
abbrev yX1_add : MethodName := ⟨"ConeRounds$Bills", "add", "(II)I"⟩
abbrev cX1_add : ByteArray := prog_3_method_4_code
abbrev yX8_pay : MethodName := ⟨"ConeRounds", "pay", "(II)I"⟩
abbrev cX8_pay : ByteArray := prog_1_method_25_code
abbrev yX1_has : MethodName := ⟨"ConeRounds$Bills", "has", "(I)Z"⟩
abbrev cX1_has : ByteArray := prog_3_method_2_code
abbrev yX8_owed : MethodName := ⟨"ConeRounds", "owed", "(II)I"⟩
abbrev cX8_owed : ByteArray := prog_1_method_26_code
abbrev yX1_owedOfAll : MethodName := ⟨"ConeRounds$Bills", "owedOfAll", "(I)I"⟩
abbrev cX1_owedOfAll : ByteArray := prog_3_method_6_code
abbrev yX1_owedOf : MethodName := ⟨"ConeRounds$Bills", "owedOf", "(II)I"⟩
abbrev cX1_owedOf : ByteArray := prog_3_method_5_code
abbrev yX8_tell : MethodName := ⟨"ConeRounds", "tell", "(I)I"⟩
abbrev cX8_tell : ByteArray := prog_1_method_27_code
abbrev yX8_check : MethodName := ⟨"ConeRounds", "check", "(I)I"⟩
abbrev cX8_check : ByteArray := prog_1_method_28_code
abbrev yX8_walkTold : MethodName := ⟨"ConeRounds", "walkTold", "(LConeRounds$Van;I)Z"⟩
abbrev cX8_walkTold : ByteArray := prog_1_method_49_code
abbrev yX8_goesOn : MethodName := ⟨"ConeRounds", "goesOn", "(LConeRounds$Van;II)Z"⟩
abbrev cX8_goesOn : ByteArray := prog_1_method_50_code
abbrev yX8_count : MethodName := ⟨"ConeRounds", "count", "(I)I"⟩
abbrev cX8_count : ByteArray := prog_1_method_29_code
abbrev yX8_stockOfAll : MethodName := ⟨"ConeRounds", "stockOfAll", "()I"⟩
abbrev cX8_stockOfAll : ByteArray := prog_1_method_43_code
abbrev yX8_found : MethodName := ⟨"ConeRounds", "found", "(I)I"⟩
abbrev cX8_found : ByteArray := prog_1_method_30_code
abbrev yX9_init : MethodName := ⟨"ConeRoundsModel", "<init>", "()V"⟩
abbrev cX9_init : ByteArray := prog_11_method_1_code
abbrev yX9_street : MethodName := ⟨"ConeRoundsModel", "street", "(I)I"⟩
abbrev cX9_street : ByteArray := prog_11_method_9_code
abbrev yX9_in : MethodName := ⟨"ConeRoundsModel", "in", "(III)Z"⟩
abbrev cX9_in : ByteArray := prog_11_method_3_code
abbrev yX9_finds : MethodName := ⟨"ConeRoundsModel", "finds", "(I)I"⟩
abbrev cX9_finds : ByteArray := prog_11_method_4_code
abbrev yX9_way : MethodName := ⟨"ConeRoundsModel", "way", "(III)I"⟩
abbrev cX9_way : ByteArray := prog_11_method_10_code
abbrev yX9_isStreet : MethodName := ⟨"ConeRoundsModel", "isStreet", "(I)Z"⟩
abbrev cX9_isStreet : ByteArray := prog_11_method_5_code
abbrev yX9_wish : MethodName := ⟨"ConeRoundsModel", "wish", "(III)I"⟩
abbrev cX9_wish : ByteArray := prog_11_method_11_code
abbrev yX9_isHour : MethodName := ⟨"ConeRoundsModel", "isHour", "(I)Z"⟩
abbrev cX9_isHour : ByteArray := prog_11_method_7_code
abbrev yX9_heat : MethodName := ⟨"ConeRoundsModel", "heat", "(I)I"⟩
abbrev cX9_heat : ByteArray := prog_11_method_12_code
abbrev yX9_van : MethodName := ⟨"ConeRoundsModel", "van", "(I)I"⟩
abbrev cX9_van : ByteArray := prog_11_method_13_code
abbrev yX9_as : MethodName := ⟨"ConeRoundsModel", "as", "(II)I"⟩
abbrev cX9_as : ByteArray := prog_11_method_14_code
abbrev yX9_isVan : MethodName := ⟨"ConeRoundsModel", "isVan", "(I)Z"⟩
abbrev cX9_isVan : ByteArray := prog_11_method_6_code
abbrev yX9_stock : MethodName := ⟨"ConeRoundsModel", "stock", "(II)I"⟩
abbrev cX9_stock : ByteArray := prog_11_method_15_code
abbrev yX9_licence : MethodName := ⟨"ConeRoundsModel", "licence", "(II)I"⟩
abbrev cX9_licence : ByteArray := prog_11_method_16_code
abbrev yX9_law : MethodName := ⟨"ConeRoundsModel", "law", "(III)I"⟩
abbrev cX9_law : ByteArray := prog_11_method_17_code
abbrev yX9_may : MethodName := ⟨"ConeRoundsModel", "may", "(III)I"⟩
abbrev cX9_may : ByteArray := prog_11_method_21_code
abbrev yX9_mayStand : MethodName := ⟨"ConeRoundsModel", "mayStand", "(III)Z"⟩
abbrev cX9_mayStand : ByteArray := prog_11_method_20_code
abbrev yX9_isLicensed : MethodName := ⟨"ConeRoundsModel", "isLicensed", "(II)Z"⟩
abbrev cX9_isLicensed : ByteArray := prog_11_method_18_code
abbrev yX9_isBarred : MethodName := ⟨"ConeRoundsModel", "isBarred", "(II)Z"⟩
abbrev cX9_isBarred : ByteArray := prog_11_method_19_code
abbrev yX9_worth : MethodName := ⟨"ConeRoundsModel", "worth", "(II)I"⟩
abbrev cX9_worth : ByteArray := prog_11_method_23_code
abbrev yX9_worthOf : MethodName := ⟨"ConeRoundsModel", "worthOf", "(II)I"⟩
abbrev cX9_worthOf : ByteArray := prog_11_method_22_code
abbrev yX9_plan : MethodName := ⟨"ConeRoundsModel", "plan", "(III)I"⟩
abbrev cX9_plan : ByteArray := prog_11_method_29_code
abbrev yX9_whyNot : MethodName := ⟨"ConeRoundsModel", "whyNot", "(III)I"⟩
abbrev cX9_whyNot : ByteArray := prog_11_method_28_code
abbrev yX9_isAt : MethodName := ⟨"ConeRoundsModel", "isAt", "(I)Z"⟩
abbrev cX9_isAt : ByteArray := prog_11_method_8_code
abbrev yX9_findPlan : MethodName := ⟨"ConeRoundsModel", "findPlan", "(III)V"⟩
abbrev cX9_findPlan : ByteArray := prog_11_method_27_code
abbrev yX9_sells : MethodName := ⟨"ConeRoundsModel", "sells", "(II)V"⟩
abbrev cX9_sells : ByteArray := prog_11_method_25_code
abbrev yX9_note : MethodName := ⟨"ConeRoundsModel", "note", "(I)V"⟩
abbrev cX9_note : ByteArray := prog_11_method_26_code
abbrev yX9_later : MethodName := ⟨"ConeRoundsModel", "later", "(III)I"⟩
abbrev cX9_later : ByteArray := prog_11_method_24_code
abbrev yX9_stop : MethodName := ⟨"ConeRoundsModel", "stop", "(IIII)I"⟩
abbrev cX9_stop : ByteArray := prog_11_method_30_code
abbrev yX9_left : MethodName := ⟨"ConeRoundsModel", "left", "(III)I"⟩
abbrev cX9_left : ByteArray := prog_11_method_31_code
abbrev yX9_stand : MethodName := ⟨"ConeRoundsModel", "stand", "(III)I"⟩
abbrev cX9_stand : ByteArray := prog_11_method_33_code
abbrev yX9_ahead : MethodName := ⟨"ConeRoundsModel", "ahead", "(II)I"⟩
abbrev cX9_ahead : ByteArray := prog_11_method_32_code
abbrev yX9_wrong : MethodName := ⟨"ConeRoundsModel", "wrong", "(I)I"⟩
abbrev cX9_wrong : ByteArray := prog_11_method_35_code
abbrev yX9_wrongOf : MethodName := ⟨"ConeRoundsModel", "wrongOf", "(I)I"⟩
abbrev cX9_wrongOf : ByteArray := prog_11_method_34_code
abbrev yX9_clear : MethodName := ⟨"ConeRoundsModel", "clear", "()I"⟩
abbrev cX9_clear : ByteArray := prog_11_method_36_code
abbrev yX9_holder : MethodName := ⟨"ConeRoundsModel", "holder", "(I)I"⟩
abbrev cX9_holder : ByteArray := prog_11_method_38_code
abbrev yX9_holderOf : MethodName := ⟨"ConeRoundsModel", "holderOf", "(I)I"⟩
abbrev cX9_holderOf : ByteArray := prog_11_method_37_code
abbrev yX9_gets : MethodName := ⟨"ConeRoundsModel", "gets", "(IIII)I"⟩
abbrev cX9_gets : ByteArray := prog_11_method_40_code
abbrev yX9_getsOf : MethodName := ⟨"ConeRoundsModel", "getsOf", "(IIIII)I"⟩
abbrev cX9_getsOf : ByteArray := prog_11_method_39_code
abbrev yX9_balance : MethodName := ⟨"ConeRoundsModel", "balance", "(IIII)I"⟩
abbrev cX9_balance : ByteArray := prog_11_method_43_code
abbrev yX9_areTwo : MethodName := ⟨"ConeRoundsModel", "areTwo", "(III)Z"⟩
abbrev cX9_areTwo : ByteArray := prog_11_method_42_code
abbrev yX9_isBalance : MethodName := ⟨"ConeRoundsModel", "isBalance", "(IIIII)Z"⟩
abbrev cX9_isBalance : ByteArray := prog_11_method_41_code
abbrev yX9_together : MethodName := ⟨"ConeRoundsModel", "together", "(III)I"⟩
abbrev cX9_together : ByteArray := prog_11_method_44_code
abbrev yX9_credit : MethodName := ⟨"ConeRoundsModel", "credit", "(I)I"⟩
abbrev cX9_credit : ByteArray := prog_11_method_45_code
abbrev yX9_bill : MethodName := ⟨"ConeRoundsModel", "bill", "(II)I"⟩
abbrev cX9_bill : ByteArray := prog_11_method_46_code
abbrev yX9_pay : MethodName := ⟨"ConeRoundsModel", "pay", "(II)I"⟩
abbrev cX9_pay : ByteArray := prog_11_method_48_code
abbrev yX9_isBill : MethodName := ⟨"ConeRoundsModel", "isBill", "(I)Z"⟩
abbrev cX9_isBill : ByteArray := prog_11_method_47_code
abbrev yX9_owed : MethodName := ⟨"ConeRoundsModel", "owed", "(II)I"⟩
abbrev cX9_owed : ByteArray := prog_11_method_50_code
abbrev yX9_owedOf : MethodName := ⟨"ConeRoundsModel", "owedOf", "(II)I"⟩
abbrev cX9_owedOf : ByteArray := prog_11_method_49_code
abbrev yX9_tell : MethodName := ⟨"ConeRoundsModel", "tell", "(I)I"⟩
abbrev cX9_tell : ByteArray := prog_11_method_51_code
abbrev yX9_check : MethodName := ⟨"ConeRoundsModel", "check", "(I)I"⟩
abbrev cX9_check : ByteArray := prog_11_method_52_code
abbrev yX9_count : MethodName := ⟨"ConeRoundsModel", "count", "(I)I"⟩
abbrev cX9_count : ByteArray := prog_11_method_53_code
abbrev yX9_found : MethodName := ⟨"ConeRoundsModel", "found", "(I)I"⟩
abbrev cX9_found : ByteArray := prog_11_method_54_code
abbrev cL_law : ByteArray := code
end
section
theorem dX0_init_0 : decode cX0_init 0 = .ok (.aload_n 0, 1) := by decide +kernel
theorem dX0_init_1 : decode cX0_init 1 = .ok (.invokespecial 1, 3) := by decide +kernel
theorem dX0_init_4 : decode cX0_init 4 = .ok (.return_, 1) := by decide +kernel
theorem dX0_mostSoldOf_0 : decode cX0_mostSoldOf 0 = .ok (.iload_n 1, 1) := by decide +kernel
theorem dX0_mostSoldOf_1 : decode cX0_mostSoldOf 1 = .ok (.bipush 30, 2) := by decide +kernel
theorem dX0_mostSoldOf_3 : decode cX0_mostSoldOf 3 = .ok (.invokestatic 7, 3) := by decide +kernel
theorem dX0_mostSoldOf_6 : decode cX0_mostSoldOf 6 = .ok (.ireturn, 1) := by decide +kernel
theorem dX0_meltingOf_0 : decode cX0_meltingOf 0 = .ok (.iload_n 1, 1) := by decide +kernel
theorem dX0_meltingOf_1 : decode cX0_meltingOf 1 = .ok (.iconst 5, 1) := by decide +kernel
theorem dX0_meltingOf_2 : decode cX0_meltingOf 2 = .ok (.idiv, 1) := by decide +kernel
theorem dX0_meltingOf_3 : decode cX0_meltingOf 3 = .ok (.ireturn, 1) := by decide +kernel
theorem dX1_init_0 : decode cX1_init 0 = .ok (.aload_n 0, 1) := by decide +kernel
theorem dX1_init_1 : decode cX1_init 1 = .ok (.invokespecial 3, 3) := by decide +kernel
theorem dX1_init_4 : decode cX1_init 4 = .ok (.aload_n 0, 1) := by decide +kernel
theorem dX1_init_5 : decode cX1_init 5 = .ok (.bipush 12, 2) := by decide +kernel
theorem dX1_init_7 : decode cX1_init 7 = .ok (.newarray .int, 2) := by decide +kernel
theorem dX1_init_9 : decode cX1_init 9 = .ok (.putfield 9, 3) := by decide +kernel
theorem dX1_init_12 : decode cX1_init 12 = .ok (.aload_n 0, 1) := by decide +kernel
theorem dX1_init_13 : decode cX1_init 13 = .ok (.bipush 12, 2) := by decide +kernel
theorem dX1_init_15 : decode cX1_init 15 = .ok (.newarray .int, 2) := by decide +kernel
theorem dX1_init_17 : decode cX1_init 17 = .ok (.putfield 15, 3) := by decide +kernel
theorem dX1_init_20 : decode cX1_init 20 = .ok (.aload_n 0, 1) := by decide +kernel
theorem dX1_init_21 : decode cX1_init 21 = .ok (.bipush 12, 2) := by decide +kernel
theorem dX1_init_23 : decode cX1_init 23 = .ok (.newarray .int, 2) := by decide +kernel
theorem dX1_init_25 : decode cX1_init 25 = .ok (.putfield 18, 3) := by decide +kernel
theorem dX1_init_28 : decode cX1_init 28 = .ok (.aload_n 0, 1) := by decide +kernel
theorem dX1_init_29 : decode cX1_init 29 = .ok (.iconst 0, 1) := by decide +kernel
theorem dX1_init_30 : decode cX1_init 30 = .ok (.putfield 21, 3) := by decide +kernel
theorem dX1_init_33 : decode cX1_init 33 = .ok (.aload_n 0, 1) := by decide +kernel
theorem dX1_init_34 : decode cX1_init 34 = .ok (.bipush 14, 2) := by decide +kernel
theorem dX1_init_36 : decode cX1_init 36 = .ok (.putfield 25, 3) := by decide +kernel
theorem dX1_init_39 : decode cX1_init 39 = .ok (.return_, 1) := by decide +kernel
theorem dX1_has_0 : decode cX1_has 0 = .ok (.iload_n 1, 1) := by decide +kernel
theorem dX1_has_1 : decode cX1_has 1 = .ok (.ifCond .lt 15, 3) := by decide +kernel
theorem dX1_has_4 : decode cX1_has 4 = .ok (.iload_n 1, 1) := by decide +kernel
theorem dX1_has_5 : decode cX1_has 5 = .ok (.aload_n 0, 1) := by decide +kernel
theorem dX1_has_6 : decode cX1_has 6 = .ok (.getfield 21, 3) := by decide +kernel
theorem dX1_has_9 : decode cX1_has 9 = .ok (.if_icmp .ge 7, 3) := by decide +kernel
theorem dX1_has_12 : decode cX1_has 12 = .ok (.iconst 1, 1) := by decide +kernel
theorem dX1_has_13 : decode cX1_has 13 = .ok (.goto 4, 3) := by decide +kernel
theorem dX1_has_16 : decode cX1_has 16 = .ok (.iconst 0, 1) := by decide +kernel
theorem dX1_has_17 : decode cX1_has 17 = .ok (.ireturn, 1) := by decide +kernel
theorem dX1_isFull_0 : decode cX1_isFull 0 = .ok (.aload_n 0, 1) := by decide +kernel
theorem dX1_isFull_1 : decode cX1_isFull 1 = .ok (.getfield 21, 3) := by decide +kernel
theorem dX1_isFull_4 : decode cX1_isFull 4 = .ok (.bipush 12, 2) := by decide +kernel
theorem dX1_isFull_6 : decode cX1_isFull 6 = .ok (.if_icmp .lt 7, 3) := by decide +kernel
theorem dX1_isFull_9 : decode cX1_isFull 9 = .ok (.iconst 1, 1) := by decide +kernel
theorem dX1_isFull_10 : decode cX1_isFull 10 = .ok (.goto 4, 3) := by decide +kernel
theorem dX1_isFull_13 : decode cX1_isFull 13 = .ok (.iconst 0, 1) := by decide +kernel
theorem dX1_isFull_14 : decode cX1_isFull 14 = .ok (.ireturn, 1) := by decide +kernel
theorem dX1_add_0 : decode cX1_add 0 = .ok (.aload_n 0, 1) := by decide +kernel
theorem dX1_add_1 : decode cX1_add 1 = .ok (.getfield 9, 3) := by decide +kernel
theorem dX1_add_4 : decode cX1_add 4 = .ok (.aload_n 0, 1) := by decide +kernel
theorem dX1_add_5 : decode cX1_add 5 = .ok (.getfield 21, 3) := by decide +kernel
theorem dX1_add_8 : decode cX1_add 8 = .ok (.iload_n 1, 1) := by decide +kernel
theorem dX1_add_9 : decode cX1_add 9 = .ok (.iastore, 1) := by decide +kernel
theorem dX1_add_10 : decode cX1_add 10 = .ok (.aload_n 0, 1) := by decide +kernel
theorem dX1_add_11 : decode cX1_add 11 = .ok (.getfield 15, 3) := by decide +kernel
theorem dX1_add_14 : decode cX1_add 14 = .ok (.aload_n 0, 1) := by decide +kernel
theorem dX1_add_15 : decode cX1_add 15 = .ok (.getfield 21, 3) := by decide +kernel
theorem dX1_add_18 : decode cX1_add 18 = .ok (.iload_n 2, 1) := by decide +kernel
theorem dX1_add_19 : decode cX1_add 19 = .ok (.iastore, 1) := by decide +kernel
theorem dX1_add_20 : decode cX1_add 20 = .ok (.aload_n 0, 1) := by decide +kernel
theorem dX1_add_21 : decode cX1_add 21 = .ok (.getfield 18, 3) := by decide +kernel
theorem dX1_add_24 : decode cX1_add 24 = .ok (.aload_n 0, 1) := by decide +kernel
theorem dX1_add_25 : decode cX1_add 25 = .ok (.getfield 21, 3) := by decide +kernel
theorem dX1_add_28 : decode cX1_add 28 = .ok (.iload_n 2, 1) := by decide +kernel
theorem dX1_add_29 : decode cX1_add 29 = .ok (.aload_n 0, 1) := by decide +kernel
theorem dX1_add_30 : decode cX1_add 30 = .ok (.getfield 25, 3) := by decide +kernel
theorem dX1_add_33 : decode cX1_add 33 = .ok (.iadd, 1) := by decide +kernel
theorem dX1_add_34 : decode cX1_add 34 = .ok (.iastore, 1) := by decide +kernel
theorem dX1_add_35 : decode cX1_add 35 = .ok (.aload_n 0, 1) := by decide +kernel
theorem dX1_add_36 : decode cX1_add 36 = .ok (.dup, 1) := by decide +kernel
theorem dX1_add_37 : decode cX1_add 37 = .ok (.getfield 21, 3) := by decide +kernel
theorem dX1_add_40 : decode cX1_add 40 = .ok (.iconst 1, 1) := by decide +kernel
theorem dX1_add_41 : decode cX1_add 41 = .ok (.iadd, 1) := by decide +kernel
theorem dX1_add_42 : decode cX1_add 42 = .ok (.putfield 21, 3) := by decide +kernel
theorem dX1_add_45 : decode cX1_add 45 = .ok (.aload_n 0, 1) := by decide +kernel
theorem dX1_add_46 : decode cX1_add 46 = .ok (.getfield 21, 3) := by decide +kernel
theorem dX1_add_49 : decode cX1_add 49 = .ok (.iconst 1, 1) := by decide +kernel
theorem dX1_add_50 : decode cX1_add 50 = .ok (.isub, 1) := by decide +kernel
theorem dX1_add_51 : decode cX1_add 51 = .ok (.ireturn, 1) := by decide +kernel
theorem dX1_owedOf_0 : decode cX1_owedOf 0 = .ok (.iload_n 2, 1) := by decide +kernel
theorem dX1_owedOf_1 : decode cX1_owedOf 1 = .ok (.aload_n 0, 1) := by decide +kernel
theorem dX1_owedOf_2 : decode cX1_owedOf 2 = .ok (.getfield 15, 3) := by decide +kernel
theorem dX1_owedOf_5 : decode cX1_owedOf 5 = .ok (.iload_n 1, 1) := by decide +kernel
theorem dX1_owedOf_6 : decode cX1_owedOf 6 = .ok (.iaload, 1) := by decide +kernel
theorem dX1_owedOf_7 : decode cX1_owedOf 7 = .ok (.if_icmp .ge 5, 3) := by decide +kernel
theorem dX1_owedOf_10 : decode cX1_owedOf 10 = .ok (.iconst 0, 1) := by decide +kernel
theorem dX1_owedOf_11 : decode cX1_owedOf 11 = .ok (.ireturn, 1) := by decide +kernel
theorem dX1_owedOf_12 : decode cX1_owedOf 12 = .ok (.iload_n 2, 1) := by decide +kernel
theorem dX1_owedOf_13 : decode cX1_owedOf 13 = .ok (.aload_n 0, 1) := by decide +kernel
theorem dX1_owedOf_14 : decode cX1_owedOf 14 = .ok (.getfield 18, 3) := by decide +kernel
theorem dX1_owedOf_17 : decode cX1_owedOf 17 = .ok (.iload_n 1, 1) := by decide +kernel
theorem dX1_owedOf_18 : decode cX1_owedOf 18 = .ok (.iaload, 1) := by decide +kernel
theorem dX1_owedOf_19 : decode cX1_owedOf 19 = .ok (.isub, 1) := by decide +kernel
theorem dX1_owedOf_20 : decode cX1_owedOf 20 = .ok (.iconst 0, 1) := by decide +kernel
theorem dX1_owedOf_21 : decode cX1_owedOf 21 = .ok (.invokestatic 28, 3) := by decide +kernel
theorem dX1_owedOf_24 : decode cX1_owedOf 24 = .ok (.bipush 7, 2) := by decide +kernel
theorem dX1_owedOf_26 : decode cX1_owedOf 26 = .ok (.idiv, 1) := by decide +kernel
theorem dX1_owedOf_27 : decode cX1_owedOf 27 = .ok (.istore_n 3, 1) := by decide +kernel
theorem dX1_owedOf_28 : decode cX1_owedOf 28 = .ok (.aload_n 0, 1) := by decide +kernel
theorem dX1_owedOf_29 : decode cX1_owedOf 29 = .ok (.getfield 9, 3) := by decide +kernel
theorem dX1_owedOf_32 : decode cX1_owedOf 32 = .ok (.iload_n 1, 1) := by decide +kernel
theorem dX1_owedOf_33 : decode cX1_owedOf 33 = .ok (.iaload, 1) := by decide +kernel
theorem dX1_owedOf_34 : decode cX1_owedOf 34 = .ok (.iload_n 3, 1) := by decide +kernel
theorem dX1_owedOf_35 : decode cX1_owedOf 35 = .ok (.aload_n 0, 1) := by decide +kernel
theorem dX1_owedOf_36 : decode cX1_owedOf 36 = .ok (.getfield 9, 3) := by decide +kernel
theorem dX1_owedOf_39 : decode cX1_owedOf 39 = .ok (.iload_n 1, 1) := by decide +kernel
theorem dX1_owedOf_40 : decode cX1_owedOf 40 = .ok (.iaload, 1) := by decide +kernel
theorem dX1_owedOf_41 : decode cX1_owedOf 41 = .ok (.bipush 50, 2) := by decide +kernel
theorem dX1_owedOf_43 : decode cX1_owedOf 43 = .ok (.idiv, 1) := by decide +kernel
theorem dX1_owedOf_44 : decode cX1_owedOf 44 = .ok (.imul, 1) := by decide +kernel
theorem dX1_owedOf_45 : decode cX1_owedOf 45 = .ok (.iadd, 1) := by decide +kernel
theorem dX1_owedOf_46 : decode cX1_owedOf 46 = .ok (.ireturn, 1) := by decide +kernel
theorem dX1_owedOfAll_0 : decode cX1_owedOfAll 0 = .ok (.iconst 0, 1) := by decide +kernel
theorem dX1_owedOfAll_1 : decode cX1_owedOfAll 1 = .ok (.istore_n 2, 1) := by decide +kernel
theorem dX1_owedOfAll_2 : decode cX1_owedOfAll 2 = .ok (.iconst 0, 1) := by decide +kernel
theorem dX1_owedOfAll_3 : decode cX1_owedOfAll 3 = .ok (.istore_n 3, 1) := by decide +kernel
theorem dX1_owedOfAll_4 : decode cX1_owedOfAll 4 = .ok (.iload_n 3, 1) := by decide +kernel
theorem dX1_owedOfAll_5 : decode cX1_owedOfAll 5 = .ok (.aload_n 0, 1) := by decide +kernel
theorem dX1_owedOfAll_6 : decode cX1_owedOfAll 6 = .ok (.getfield 21, 3) := by decide +kernel
theorem dX1_owedOfAll_9 : decode cX1_owedOfAll 9 = .ok (.if_icmp .ge 18, 3) := by decide +kernel
theorem dX1_owedOfAll_12 : decode cX1_owedOfAll 12 = .ok (.iload_n 2, 1) := by decide +kernel
theorem dX1_owedOfAll_13 : decode cX1_owedOfAll 13 = .ok (.aload_n 0, 1) := by decide +kernel
theorem dX1_owedOfAll_14 : decode cX1_owedOfAll 14 = .ok (.iload_n 3, 1) := by decide +kernel
theorem dX1_owedOfAll_15 : decode cX1_owedOfAll 15 = .ok (.iload_n 1, 1) := by decide +kernel
theorem dX1_owedOfAll_16 : decode cX1_owedOfAll 16 = .ok (.invokevirtual 34, 3) := by decide +kernel
theorem dX1_owedOfAll_19 : decode cX1_owedOfAll 19 = .ok (.iadd, 1) := by decide +kernel
theorem dX1_owedOfAll_20 : decode cX1_owedOfAll 20 = .ok (.istore_n 2, 1) := by decide +kernel
theorem dX1_owedOfAll_21 : decode cX1_owedOfAll 21 = .ok (.iinc 3 1, 3) := by decide +kernel
theorem dX1_owedOfAll_24 : decode cX1_owedOfAll 24 = .ok (.goto (-20), 3) := by decide +kernel
theorem dX1_owedOfAll_27 : decode cX1_owedOfAll 27 = .ok (.iload_n 2, 1) := by decide +kernel
theorem dX1_owedOfAll_28 : decode cX1_owedOfAll 28 = .ok (.ireturn, 1) := by decide +kernel
theorem dX2_init_0 : decode cX2_init 0 = .ok (.aload_n 0, 1) := by decide +kernel
theorem dX2_init_1 : decode cX2_init 1 = .ok (.invokespecial 1, 3) := by decide +kernel
theorem dX2_init_4 : decode cX2_init 4 = .ok (.return_, 1) := by decide +kernel
theorem dX2_meltingOf_0 : decode cX2_meltingOf 0 = .ok (.iconst 0, 1) := by decide +kernel
theorem dX2_meltingOf_1 : decode cX2_meltingOf 1 = .ok (.ireturn, 1) := by decide +kernel
theorem dX2_hoursAcross_0 : decode cX2_hoursAcross 0 = .ok (.iconst 2, 1) := by decide +kernel
theorem dX2_hoursAcross_1 : decode cX2_hoursAcross 1 = .ok (.iload_n 1, 1) := by decide +kernel
theorem dX2_hoursAcross_2 : decode cX2_hoursAcross 2 = .ok (.iadd, 1) := by decide +kernel
theorem dX2_hoursAcross_3 : decode cX2_hoursAcross 3 = .ok (.ireturn, 1) := by decide +kernel
theorem dX3_init_0 : decode cX3_init 0 = .ok (.aload_n 0, 1) := by decide +kernel
theorem dX3_init_1 : decode cX3_init 1 = .ok (.invokespecial 1, 3) := by decide +kernel
theorem dX3_init_4 : decode cX3_init 4 = .ok (.aload_n 0, 1) := by decide +kernel
theorem dX3_init_5 : decode cX3_init 5 = .ok (.iconst 1, 1) := by decide +kernel
theorem dX3_init_6 : decode cX3_init 6 = .ok (.putfield 7, 3) := by decide +kernel
theorem dX3_init_9 : decode cX3_init 9 = .ok (.aload_n 0, 1) := by decide +kernel
theorem dX3_init_10 : decode cX3_init 10 = .ok (.iconst 0, 1) := by decide +kernel
theorem dX3_init_11 : decode cX3_init 11 = .ok (.putfield 13, 3) := by decide +kernel
theorem dX3_init_14 : decode cX3_init 14 = .ok (.aload_n 0, 1) := by decide +kernel
theorem dX3_init_15 : decode cX3_init 15 = .ok (.bipush 12, 2) := by decide +kernel
theorem dX3_init_17 : decode cX3_init 17 = .ok (.putfield 16, 3) := by decide +kernel
theorem dX3_init_20 : decode cX3_init 20 = .ok (.return_, 1) := by decide +kernel
theorem dX3_barsSchoolsAt_0 : decode cX3_barsSchoolsAt 0 = .ok (.iload_n 1, 1) := by decide +kernel
theorem dX3_barsSchoolsAt_1 : decode cX3_barsSchoolsAt 1 = .ok (.aload_n 0, 1) := by decide +kernel
theorem dX3_barsSchoolsAt_2 : decode cX3_barsSchoolsAt 2 = .ok (.getfield 7, 3) := by decide +kernel
theorem dX3_barsSchoolsAt_5 : decode cX3_barsSchoolsAt 5 = .ok (.if_icmp .lt 15, 3) := by decide +kernel
theorem dX3_barsSchoolsAt_8 : decode cX3_barsSchoolsAt 8 = .ok (.iload_n 1, 1) := by decide +kernel
theorem dX3_barsSchoolsAt_9 : decode cX3_barsSchoolsAt 9 = .ok (.aload_n 0, 1) := by decide +kernel
theorem dX3_barsSchoolsAt_10 : decode cX3_barsSchoolsAt 10 = .ok (.getfield 13, 3) := by decide +kernel
theorem dX3_barsSchoolsAt_13 : decode cX3_barsSchoolsAt 13 = .ok (.if_icmp .gt 7, 3) := by decide +kernel
theorem dX3_barsSchoolsAt_16 : decode cX3_barsSchoolsAt 16 = .ok (.iconst 1, 1) := by decide +kernel
theorem dX3_barsSchoolsAt_17 : decode cX3_barsSchoolsAt 17 = .ok (.goto 4, 3) := by decide +kernel
theorem dX3_barsSchoolsAt_20 : decode cX3_barsSchoolsAt 20 = .ok (.iconst 0, 1) := by decide +kernel
theorem dX3_barsSchoolsAt_21 : decode cX3_barsSchoolsAt 21 = .ok (.ireturn, 1) := by decide +kernel
theorem dX4_init_0 : decode cX4_init 0 = .ok (.aload_n 0, 1) := by decide +kernel
theorem dX4_init_1 : decode cX4_init 1 = .ok (.invokespecial 3, 3) := by decide +kernel
theorem dX4_init_4 : decode cX4_init 4 = .ok (.aload_n 0, 1) := by decide +kernel
theorem dX4_init_5 : decode cX4_init 5 = .ok (.bipush 24, 2) := by decide +kernel
theorem dX4_init_7 : decode cX4_init 7 = .ok (.newarray .int, 2) := by decide +kernel
theorem dX4_init_9 : decode cX4_init 9 = .ok (.putfield 9, 3) := by decide +kernel
theorem dX4_init_12 : decode cX4_init 12 = .ok (.aload_n 0, 1) := by decide +kernel
theorem dX4_init_13 : decode cX4_init 13 = .ok (.bipush 24, 2) := by decide +kernel
theorem dX4_init_15 : decode cX4_init 15 = .ok (.newarray .int, 2) := by decide +kernel
theorem dX4_init_17 : decode cX4_init 17 = .ok (.putfield 15, 3) := by decide +kernel
theorem dX4_init_20 : decode cX4_init 20 = .ok (.aload_n 0, 1) := by decide +kernel
theorem dX4_init_21 : decode cX4_init 21 = .ok (.bipush 24, 2) := by decide +kernel
theorem dX4_init_23 : decode cX4_init 23 = .ok (.newarray .int, 2) := by decide +kernel
theorem dX4_init_25 : decode cX4_init 25 = .ok (.putfield 18, 3) := by decide +kernel
theorem dX4_init_28 : decode cX4_init 28 = .ok (.aload_n 0, 1) := by decide +kernel
theorem dX4_init_29 : decode cX4_init 29 = .ok (.bipush 24, 2) := by decide +kernel
theorem dX4_init_31 : decode cX4_init 31 = .ok (.newarray .int, 2) := by decide +kernel
theorem dX4_init_33 : decode cX4_init 33 = .ok (.putfield 21, 3) := by decide +kernel
theorem dX4_init_36 : decode cX4_init 36 = .ok (.aload_n 0, 1) := by decide +kernel
theorem dX4_init_37 : decode cX4_init 37 = .ok (.iconst 0, 1) := by decide +kernel
theorem dX4_init_38 : decode cX4_init 38 = .ok (.putfield 24, 3) := by decide +kernel
theorem dX4_init_41 : decode cX4_init 41 = .ok (.return_, 1) := by decide +kernel
theorem dX4_has_0 : decode cX4_has 0 = .ok (.iload_n 1, 1) := by decide +kernel
theorem dX4_has_1 : decode cX4_has 1 = .ok (.ifCond .lt 15, 3) := by decide +kernel
theorem dX4_has_4 : decode cX4_has 4 = .ok (.iload_n 1, 1) := by decide +kernel
theorem dX4_has_5 : decode cX4_has 5 = .ok (.aload_n 0, 1) := by decide +kernel
theorem dX4_has_6 : decode cX4_has 6 = .ok (.getfield 24, 3) := by decide +kernel
theorem dX4_has_9 : decode cX4_has 9 = .ok (.if_icmp .ge 7, 3) := by decide +kernel
theorem dX4_has_12 : decode cX4_has 12 = .ok (.iconst 1, 1) := by decide +kernel
theorem dX4_has_13 : decode cX4_has 13 = .ok (.goto 4, 3) := by decide +kernel
theorem dX4_has_16 : decode cX4_has 16 = .ok (.iconst 0, 1) := by decide +kernel
theorem dX4_has_17 : decode cX4_has 17 = .ok (.ireturn, 1) := by decide +kernel
theorem dX4_isFull_0 : decode cX4_isFull 0 = .ok (.aload_n 0, 1) := by decide +kernel
theorem dX4_isFull_1 : decode cX4_isFull 1 = .ok (.getfield 24, 3) := by decide +kernel
theorem dX4_isFull_4 : decode cX4_isFull 4 = .ok (.bipush 24, 2) := by decide +kernel
theorem dX4_isFull_6 : decode cX4_isFull 6 = .ok (.if_icmp .lt 7, 3) := by decide +kernel
theorem dX4_isFull_9 : decode cX4_isFull 9 = .ok (.iconst 1, 1) := by decide +kernel
theorem dX4_isFull_10 : decode cX4_isFull 10 = .ok (.goto 4, 3) := by decide +kernel
theorem dX4_isFull_13 : decode cX4_isFull 13 = .ok (.iconst 0, 1) := by decide +kernel
theorem dX4_isFull_14 : decode cX4_isFull 14 = .ok (.ireturn, 1) := by decide +kernel
theorem dX4_add_0 : decode cX4_add 0 = .ok (.aload_n 0, 1) := by decide +kernel
theorem dX4_add_1 : decode cX4_add 1 = .ok (.getfield 9, 3) := by decide +kernel
theorem dX4_add_4 : decode cX4_add 4 = .ok (.aload_n 0, 1) := by decide +kernel
theorem dX4_add_5 : decode cX4_add 5 = .ok (.getfield 24, 3) := by decide +kernel
theorem dX4_add_8 : decode cX4_add 8 = .ok (.iload_n 1, 1) := by decide +kernel
theorem dX4_add_9 : decode cX4_add 9 = .ok (.iastore, 1) := by decide +kernel
theorem dX4_add_10 : decode cX4_add 10 = .ok (.aload_n 0, 1) := by decide +kernel
theorem dX4_add_11 : decode cX4_add 11 = .ok (.getfield 15, 3) := by decide +kernel
theorem dX4_add_14 : decode cX4_add 14 = .ok (.aload_n 0, 1) := by decide +kernel
theorem dX4_add_15 : decode cX4_add 15 = .ok (.getfield 24, 3) := by decide +kernel
theorem dX4_add_18 : decode cX4_add 18 = .ok (.iload_n 2, 1) := by decide +kernel
theorem dX4_add_19 : decode cX4_add 19 = .ok (.iastore, 1) := by decide +kernel
theorem dX4_add_20 : decode cX4_add 20 = .ok (.aload_n 0, 1) := by decide +kernel
theorem dX4_add_21 : decode cX4_add 21 = .ok (.getfield 18, 3) := by decide +kernel
theorem dX4_add_24 : decode cX4_add 24 = .ok (.aload_n 0, 1) := by decide +kernel
theorem dX4_add_25 : decode cX4_add 25 = .ok (.getfield 24, 3) := by decide +kernel
theorem dX4_add_28 : decode cX4_add 28 = .ok (.iload_n 3, 1) := by decide +kernel
theorem dX4_add_29 : decode cX4_add 29 = .ok (.iastore, 1) := by decide +kernel
theorem dX4_add_30 : decode cX4_add 30 = .ok (.aload_n 0, 1) := by decide +kernel
theorem dX4_add_31 : decode cX4_add 31 = .ok (.getfield 21, 3) := by decide +kernel
theorem dX4_add_34 : decode cX4_add 34 = .ok (.aload_n 0, 1) := by decide +kernel
theorem dX4_add_35 : decode cX4_add 35 = .ok (.getfield 24, 3) := by decide +kernel
theorem dX4_add_38 : decode cX4_add 38 = .ok (.iload 4, 2) := by decide +kernel
theorem dX4_add_40 : decode cX4_add 40 = .ok (.iastore, 1) := by decide +kernel
theorem dX4_add_41 : decode cX4_add 41 = .ok (.aload_n 0, 1) := by decide +kernel
theorem dX4_add_42 : decode cX4_add 42 = .ok (.dup, 1) := by decide +kernel
theorem dX4_add_43 : decode cX4_add 43 = .ok (.getfield 24, 3) := by decide +kernel
theorem dX4_add_46 : decode cX4_add 46 = .ok (.iconst 1, 1) := by decide +kernel
theorem dX4_add_47 : decode cX4_add 47 = .ok (.iadd, 1) := by decide +kernel
theorem dX4_add_48 : decode cX4_add 48 = .ok (.putfield 24, 3) := by decide +kernel
theorem dX4_add_51 : decode cX4_add 51 = .ok (.aload_n 0, 1) := by decide +kernel
theorem dX4_add_52 : decode cX4_add 52 = .ok (.getfield 24, 3) := by decide +kernel
theorem dX4_add_55 : decode cX4_add 55 = .ok (.iconst 1, 1) := by decide +kernel
theorem dX4_add_56 : decode cX4_add 56 = .ok (.isub, 1) := by decide +kernel
theorem dX4_add_57 : decode cX4_add 57 = .ok (.ireturn, 1) := by decide +kernel
theorem dX4_latestAhead_0 : decode cX4_latestAhead 0 = .ok (.iconst (-1), 1) := by decide +kernel
theorem dX4_latestAhead_1 : decode cX4_latestAhead 1 = .ok (.istore_n 3, 1) := by decide +kernel
theorem dX4_latestAhead_2 : decode cX4_latestAhead 2 = .ok (.iconst 0, 1) := by decide +kernel
theorem dX4_latestAhead_3 : decode cX4_latestAhead 3 = .ok (.istore 4, 2) := by decide +kernel
theorem dX4_latestAhead_5 : decode cX4_latestAhead 5 = .ok (.iload 4, 2) := by decide +kernel
theorem dX4_latestAhead_7 : decode cX4_latestAhead 7 = .ok (.iload_n 2, 1) := by decide +kernel
theorem dX4_latestAhead_8 : decode cX4_latestAhead 8 = .ok (.if_icmp .ge 23, 3) := by decide +kernel
theorem dX4_latestAhead_11 : decode cX4_latestAhead 11 = .ok (.aload_n 0, 1) := by decide +kernel
theorem dX4_latestAhead_12 : decode cX4_latestAhead 12 = .ok (.getfield 9, 3) := by decide +kernel
theorem dX4_latestAhead_15 : decode cX4_latestAhead 15 = .ok (.iload 4, 2) := by decide +kernel
theorem dX4_latestAhead_17 : decode cX4_latestAhead 17 = .ok (.iaload, 1) := by decide +kernel
theorem dX4_latestAhead_18 : decode cX4_latestAhead 18 = .ok (.iload_n 1, 1) := by decide +kernel
theorem dX4_latestAhead_19 : decode cX4_latestAhead 19 = .ok (.if_icmp .ne 6, 3) := by decide +kernel
theorem dX4_latestAhead_22 : decode cX4_latestAhead 22 = .ok (.iload 4, 2) := by decide +kernel
theorem dX4_latestAhead_24 : decode cX4_latestAhead 24 = .ok (.istore_n 3, 1) := by decide +kernel
theorem dX4_latestAhead_25 : decode cX4_latestAhead 25 = .ok (.iinc 4 1, 3) := by decide +kernel
theorem dX4_latestAhead_28 : decode cX4_latestAhead 28 = .ok (.goto (-23), 3) := by decide +kernel
theorem dX4_latestAhead_31 : decode cX4_latestAhead 31 = .ok (.iload_n 3, 1) := by decide +kernel
theorem dX4_latestAhead_32 : decode cX4_latestAhead 32 = .ok (.ireturn, 1) := by decide +kernel
theorem dX4_isTaken_0 : decode cX4_isTaken 0 = .ok (.iconst 0, 1) := by decide +kernel
theorem dX4_isTaken_1 : decode cX4_isTaken 1 = .ok (.istore_n 2, 1) := by decide +kernel
theorem dX4_isTaken_2 : decode cX4_isTaken 2 = .ok (.iload_n 2, 1) := by decide +kernel
theorem dX4_isTaken_3 : decode cX4_isTaken 3 = .ok (.iload_n 1, 1) := by decide +kernel
theorem dX4_isTaken_4 : decode cX4_isTaken 4 = .ok (.if_icmp .ge 41, 3) := by decide +kernel
theorem dX4_isTaken_7 : decode cX4_isTaken 7 = .ok (.aload_n 0, 1) := by decide +kernel
theorem dX4_isTaken_8 : decode cX4_isTaken 8 = .ok (.getfield 15, 3) := by decide +kernel
theorem dX4_isTaken_11 : decode cX4_isTaken 11 = .ok (.iload_n 2, 1) := by decide +kernel
theorem dX4_isTaken_12 : decode cX4_isTaken 12 = .ok (.iaload, 1) := by decide +kernel
theorem dX4_isTaken_13 : decode cX4_isTaken 13 = .ok (.aload_n 0, 1) := by decide +kernel
theorem dX4_isTaken_14 : decode cX4_isTaken 14 = .ok (.getfield 15, 3) := by decide +kernel
theorem dX4_isTaken_17 : decode cX4_isTaken 17 = .ok (.iload_n 1, 1) := by decide +kernel
theorem dX4_isTaken_18 : decode cX4_isTaken 18 = .ok (.iaload, 1) := by decide +kernel
theorem dX4_isTaken_19 : decode cX4_isTaken 19 = .ok (.if_icmp .ne 20, 3) := by decide +kernel
theorem dX4_isTaken_22 : decode cX4_isTaken 22 = .ok (.aload_n 0, 1) := by decide +kernel
theorem dX4_isTaken_23 : decode cX4_isTaken 23 = .ok (.getfield 18, 3) := by decide +kernel
theorem dX4_isTaken_26 : decode cX4_isTaken 26 = .ok (.iload_n 2, 1) := by decide +kernel
theorem dX4_isTaken_27 : decode cX4_isTaken 27 = .ok (.iaload, 1) := by decide +kernel
theorem dX4_isTaken_28 : decode cX4_isTaken 28 = .ok (.aload_n 0, 1) := by decide +kernel
theorem dX4_isTaken_29 : decode cX4_isTaken 29 = .ok (.getfield 18, 3) := by decide +kernel
theorem dX4_isTaken_32 : decode cX4_isTaken 32 = .ok (.iload_n 1, 1) := by decide +kernel
theorem dX4_isTaken_33 : decode cX4_isTaken 33 = .ok (.iaload, 1) := by decide +kernel
theorem dX4_isTaken_34 : decode cX4_isTaken 34 = .ok (.if_icmp .ne 5, 3) := by decide +kernel
theorem dX4_isTaken_37 : decode cX4_isTaken 37 = .ok (.iconst 1, 1) := by decide +kernel
theorem dX4_isTaken_38 : decode cX4_isTaken 38 = .ok (.ireturn, 1) := by decide +kernel
theorem dX4_isTaken_39 : decode cX4_isTaken 39 = .ok (.iinc 2 1, 3) := by decide +kernel
theorem dX4_isTaken_42 : decode cX4_isTaken 42 = .ok (.goto (-40), 3) := by decide +kernel
theorem dX4_isTaken_45 : decode cX4_isTaken 45 = .ok (.iconst 0, 1) := by decide +kernel
theorem dX4_isTaken_46 : decode cX4_isTaken 46 = .ok (.ireturn, 1) := by decide +kernel
theorem dX4_countOf_0 : decode cX4_countOf 0 = .ok (.iconst 0, 1) := by decide +kernel
theorem dX4_countOf_1 : decode cX4_countOf 1 = .ok (.istore_n 3, 1) := by decide +kernel
theorem dX4_countOf_2 : decode cX4_countOf 2 = .ok (.iconst 0, 1) := by decide +kernel
theorem dX4_countOf_3 : decode cX4_countOf 3 = .ok (.istore 4, 2) := by decide +kernel
theorem dX4_countOf_5 : decode cX4_countOf 5 = .ok (.iload 4, 2) := by decide +kernel
theorem dX4_countOf_7 : decode cX4_countOf 7 = .ok (.aload_n 0, 1) := by decide +kernel
theorem dX4_countOf_8 : decode cX4_countOf 8 = .ok (.getfield 24, 3) := by decide +kernel
theorem dX4_countOf_11 : decode cX4_countOf 11 = .ok (.if_icmp .ge 34, 3) := by decide +kernel
theorem dX4_countOf_14 : decode cX4_countOf 14 = .ok (.aload_n 0, 1) := by decide +kernel
theorem dX4_countOf_15 : decode cX4_countOf 15 = .ok (.getfield 9, 3) := by decide +kernel
theorem dX4_countOf_18 : decode cX4_countOf 18 = .ok (.iload 4, 2) := by decide +kernel
theorem dX4_countOf_20 : decode cX4_countOf 20 = .ok (.iaload, 1) := by decide +kernel
theorem dX4_countOf_21 : decode cX4_countOf 21 = .ok (.iload_n 1, 1) := by decide +kernel
theorem dX4_countOf_22 : decode cX4_countOf 22 = .ok (.if_icmp .ne 17, 3) := by decide +kernel
theorem dX4_countOf_25 : decode cX4_countOf 25 = .ok (.aload_n 0, 1) := by decide +kernel
theorem dX4_countOf_26 : decode cX4_countOf 26 = .ok (.getfield 15, 3) := by decide +kernel
theorem dX4_countOf_29 : decode cX4_countOf 29 = .ok (.iload 4, 2) := by decide +kernel
theorem dX4_countOf_31 : decode cX4_countOf 31 = .ok (.iaload, 1) := by decide +kernel
theorem dX4_countOf_32 : decode cX4_countOf 32 = .ok (.iload_n 2, 1) := by decide +kernel
theorem dX4_countOf_33 : decode cX4_countOf 33 = .ok (.if_icmp .ne 6, 3) := by decide +kernel
theorem dX4_countOf_36 : decode cX4_countOf 36 = .ok (.iinc 3 1, 3) := by decide +kernel
theorem dX4_countOf_39 : decode cX4_countOf 39 = .ok (.iinc 4 1, 3) := by decide +kernel
theorem dX4_countOf_42 : decode cX4_countOf 42 = .ok (.goto (-37), 3) := by decide +kernel
theorem dX4_countOf_45 : decode cX4_countOf 45 = .ok (.iload_n 3, 1) := by decide +kernel
theorem dX4_countOf_46 : decode cX4_countOf 46 = .ok (.ireturn, 1) := by decide +kernel
theorem dX5_init_0 : decode cX5_init 0 = .ok (.aload_n 0, 1) := by decide +kernel
theorem dX5_init_1 : decode cX5_init 1 = .ok (.invokespecial 3, 3) := by decide +kernel
theorem dX5_init_4 : decode cX5_init 4 = .ok (.aload_n 0, 1) := by decide +kernel
theorem dX5_init_5 : decode cX5_init 5 = .ok (.bipush 6, 2) := by decide +kernel
theorem dX5_init_7 : decode cX5_init 7 = .ok (.newarray .boolean, 2) := by decide +kernel
theorem dX5_init_9 : decode cX5_init 9 = .ok (.putfield 9, 3) := by decide +kernel
theorem dX5_init_12 : decode cX5_init 12 = .ok (.aload_n 0, 1) := by decide +kernel
theorem dX5_init_13 : decode cX5_init 13 = .ok (.bipush 36, 2) := by decide +kernel
theorem dX5_init_15 : decode cX5_init 15 = .ok (.newarray .int, 2) := by decide +kernel
theorem dX5_init_17 : decode cX5_init 17 = .ok (.putfield 15, 3) := by decide +kernel
theorem dX5_init_20 : decode cX5_init 20 = .ok (.aload_n 0, 1) := by decide +kernel
theorem dX5_init_21 : decode cX5_init 21 = .ok (.bipush 72, 2) := by decide +kernel
theorem dX5_init_23 : decode cX5_init 23 = .ok (.newarray .int, 2) := by decide +kernel
theorem dX5_init_25 : decode cX5_init 25 = .ok (.putfield 19, 3) := by decide +kernel
theorem dX5_init_28 : decode cX5_init 28 = .ok (.aload_n 0, 1) := by decide +kernel
theorem dX5_init_29 : decode cX5_init 29 = .ok (.iconst 0, 1) := by decide +kernel
theorem dX5_init_30 : decode cX5_init 30 = .ok (.putfield 22, 3) := by decide +kernel
theorem dX5_init_33 : decode cX5_init 33 = .ok (.aload_n 0, 1) := by decide +kernel
theorem dX5_init_34 : decode cX5_init 34 = .ok (.iconst 2, 1) := by decide +kernel
theorem dX5_init_35 : decode cX5_init 35 = .ok (.putfield 26, 3) := by decide +kernel
theorem dX5_init_38 : decode cX5_init 38 = .ok (.return_, 1) := by decide +kernel
theorem dX5_has_0 : decode cX5_has 0 = .ok (.iload_n 1, 1) := by decide +kernel
theorem dX5_has_1 : decode cX5_has 1 = .ok (.ifCond .lt 15, 3) := by decide +kernel
theorem dX5_has_4 : decode cX5_has 4 = .ok (.iload_n 1, 1) := by decide +kernel
theorem dX5_has_5 : decode cX5_has 5 = .ok (.aload_n 0, 1) := by decide +kernel
theorem dX5_has_6 : decode cX5_has 6 = .ok (.getfield 22, 3) := by decide +kernel
theorem dX5_has_9 : decode cX5_has 9 = .ok (.if_icmp .ge 7, 3) := by decide +kernel
theorem dX5_has_12 : decode cX5_has 12 = .ok (.iconst 1, 1) := by decide +kernel
theorem dX5_has_13 : decode cX5_has 13 = .ok (.goto 4, 3) := by decide +kernel
theorem dX5_has_16 : decode cX5_has 16 = .ok (.iconst 0, 1) := by decide +kernel
theorem dX5_has_17 : decode cX5_has 17 = .ok (.ireturn, 1) := by decide +kernel
theorem dX5_isFull_0 : decode cX5_isFull 0 = .ok (.aload_n 0, 1) := by decide +kernel
theorem dX5_isFull_1 : decode cX5_isFull 1 = .ok (.getfield 22, 3) := by decide +kernel
theorem dX5_isFull_4 : decode cX5_isFull 4 = .ok (.bipush 6, 2) := by decide +kernel
theorem dX5_isFull_6 : decode cX5_isFull 6 = .ok (.if_icmp .lt 7, 3) := by decide +kernel
theorem dX5_isFull_9 : decode cX5_isFull 9 = .ok (.iconst 1, 1) := by decide +kernel
theorem dX5_isFull_10 : decode cX5_isFull 10 = .ok (.goto 4, 3) := by decide +kernel
theorem dX5_isFull_13 : decode cX5_isFull 13 = .ok (.iconst 0, 1) := by decide +kernel
theorem dX5_isFull_14 : decode cX5_isFull 14 = .ok (.ireturn, 1) := by decide +kernel
theorem dX5_add_0 : decode cX5_add 0 = .ok (.aload_n 0, 1) := by decide +kernel
theorem dX5_add_1 : decode cX5_add 1 = .ok (.getfield 9, 3) := by decide +kernel
theorem dX5_add_4 : decode cX5_add 4 = .ok (.aload_n 0, 1) := by decide +kernel
theorem dX5_add_5 : decode cX5_add 5 = .ok (.getfield 22, 3) := by decide +kernel
theorem dX5_add_8 : decode cX5_add 8 = .ok (.iload_n 1, 1) := by decide +kernel
theorem dX5_add_9 : decode cX5_add 9 = .ok (.bastore, 1) := by decide +kernel
theorem dX5_add_10 : decode cX5_add 10 = .ok (.aload_n 0, 1) := by decide +kernel
theorem dX5_add_11 : decode cX5_add 11 = .ok (.dup, 1) := by decide +kernel
theorem dX5_add_12 : decode cX5_add 12 = .ok (.getfield 22, 3) := by decide +kernel
theorem dX5_add_15 : decode cX5_add 15 = .ok (.iconst 1, 1) := by decide +kernel
theorem dX5_add_16 : decode cX5_add 16 = .ok (.iadd, 1) := by decide +kernel
theorem dX5_add_17 : decode cX5_add 17 = .ok (.putfield 22, 3) := by decide +kernel
theorem dX5_add_20 : decode cX5_add 20 = .ok (.aload_n 0, 1) := by decide +kernel
theorem dX5_add_21 : decode cX5_add 21 = .ok (.getfield 22, 3) := by decide +kernel
theorem dX5_add_24 : decode cX5_add 24 = .ok (.iconst 1, 1) := by decide +kernel
theorem dX5_add_25 : decode cX5_add 25 = .ok (.isub, 1) := by decide +kernel
theorem dX5_add_26 : decode cX5_add 26 = .ok (.ireturn, 1) := by decide +kernel
theorem dX5_wayBetween_0 : decode cX5_wayBetween 0 = .ok (.aload_n 0, 1) := by decide +kernel
theorem dX5_wayBetween_1 : decode cX5_wayBetween 1 = .ok (.getfield 15, 3) := by decide +kernel
theorem dX5_wayBetween_4 : decode cX5_wayBetween 4 = .ok (.iload_n 1, 1) := by decide +kernel
theorem dX5_wayBetween_5 : decode cX5_wayBetween 5 = .ok (.bipush 6, 2) := by decide +kernel
theorem dX5_wayBetween_7 : decode cX5_wayBetween 7 = .ok (.imul, 1) := by decide +kernel
theorem dX5_wayBetween_8 : decode cX5_wayBetween 8 = .ok (.iload_n 2, 1) := by decide +kernel
theorem dX5_wayBetween_9 : decode cX5_wayBetween 9 = .ok (.iadd, 1) := by decide +kernel
theorem dX5_wayBetween_10 : decode cX5_wayBetween 10 = .ok (.iaload, 1) := by decide +kernel
theorem dX5_wayBetween_11 : decode cX5_wayBetween 11 = .ok (.ireturn, 1) := by decide +kernel
theorem dX5_setWay_0 : decode cX5_setWay 0 = .ok (.aload_n 0, 1) := by decide +kernel
theorem dX5_setWay_1 : decode cX5_setWay 1 = .ok (.getfield 15, 3) := by decide +kernel
theorem dX5_setWay_4 : decode cX5_setWay 4 = .ok (.iload_n 1, 1) := by decide +kernel
theorem dX5_setWay_5 : decode cX5_setWay 5 = .ok (.bipush 6, 2) := by decide +kernel
theorem dX5_setWay_7 : decode cX5_setWay 7 = .ok (.imul, 1) := by decide +kernel
theorem dX5_setWay_8 : decode cX5_setWay 8 = .ok (.iload_n 2, 1) := by decide +kernel
theorem dX5_setWay_9 : decode cX5_setWay 9 = .ok (.iadd, 1) := by decide +kernel
theorem dX5_setWay_10 : decode cX5_setWay 10 = .ok (.iload_n 3, 1) := by decide +kernel
theorem dX5_setWay_11 : decode cX5_setWay 11 = .ok (.iastore, 1) := by decide +kernel
theorem dX5_setWay_12 : decode cX5_setWay 12 = .ok (.aload_n 0, 1) := by decide +kernel
theorem dX5_setWay_13 : decode cX5_setWay 13 = .ok (.getfield 15, 3) := by decide +kernel
theorem dX5_setWay_16 : decode cX5_setWay 16 = .ok (.iload_n 2, 1) := by decide +kernel
theorem dX5_setWay_17 : decode cX5_setWay 17 = .ok (.bipush 6, 2) := by decide +kernel
theorem dX5_setWay_19 : decode cX5_setWay 19 = .ok (.imul, 1) := by decide +kernel
theorem dX5_setWay_20 : decode cX5_setWay 20 = .ok (.iload_n 1, 1) := by decide +kernel
theorem dX5_setWay_21 : decode cX5_setWay 21 = .ok (.iadd, 1) := by decide +kernel
theorem dX5_setWay_22 : decode cX5_setWay 22 = .ok (.iload_n 3, 1) := by decide +kernel
theorem dX5_setWay_23 : decode cX5_setWay 23 = .ok (.iastore, 1) := by decide +kernel
theorem dX5_setWay_24 : decode cX5_setWay 24 = .ok (.return_, 1) := by decide +kernel
theorem dX5_wishAt_0 : decode cX5_wishAt 0 = .ok (.aload_n 0, 1) := by decide +kernel
theorem dX5_wishAt_1 : decode cX5_wishAt 1 = .ok (.getfield 19, 3) := by decide +kernel
theorem dX5_wishAt_4 : decode cX5_wishAt 4 = .ok (.iload_n 1, 1) := by decide +kernel
theorem dX5_wishAt_5 : decode cX5_wishAt 5 = .ok (.bipush 12, 2) := by decide +kernel
theorem dX5_wishAt_7 : decode cX5_wishAt 7 = .ok (.imul, 1) := by decide +kernel
theorem dX5_wishAt_8 : decode cX5_wishAt 8 = .ok (.iload_n 2, 1) := by decide +kernel
theorem dX5_wishAt_9 : decode cX5_wishAt 9 = .ok (.iadd, 1) := by decide +kernel
theorem dX5_wishAt_10 : decode cX5_wishAt 10 = .ok (.iaload, 1) := by decide +kernel
theorem dX5_wishAt_11 : decode cX5_wishAt 11 = .ok (.ireturn, 1) := by decide +kernel
theorem dX5_setWish_0 : decode cX5_setWish 0 = .ok (.aload_n 0, 1) := by decide +kernel
theorem dX5_setWish_1 : decode cX5_setWish 1 = .ok (.getfield 19, 3) := by decide +kernel
theorem dX5_setWish_4 : decode cX5_setWish 4 = .ok (.iload_n 1, 1) := by decide +kernel
theorem dX5_setWish_5 : decode cX5_setWish 5 = .ok (.bipush 12, 2) := by decide +kernel
theorem dX5_setWish_7 : decode cX5_setWish 7 = .ok (.imul, 1) := by decide +kernel
theorem dX5_setWish_8 : decode cX5_setWish 8 = .ok (.iload_n 2, 1) := by decide +kernel
theorem dX5_setWish_9 : decode cX5_setWish 9 = .ok (.iadd, 1) := by decide +kernel
theorem dX5_setWish_10 : decode cX5_setWish 10 = .ok (.iload_n 3, 1) := by decide +kernel
theorem dX5_setWish_11 : decode cX5_setWish 11 = .ok (.iastore, 1) := by decide +kernel
theorem dX5_setWish_12 : decode cX5_setWish 12 = .ok (.return_, 1) := by decide +kernel
theorem dX5_worthAt_0 : decode cX5_worthAt 0 = .ok (.aload_n 0, 1) := by decide +kernel
theorem dX5_worthAt_1 : decode cX5_worthAt 1 = .ok (.iload_n 1, 1) := by decide +kernel
theorem dX5_worthAt_2 : decode cX5_worthAt 2 = .ok (.iload_n 2, 1) := by decide +kernel
theorem dX5_worthAt_3 : decode cX5_worthAt 3 = .ok (.invokevirtual 29, 3) := by decide +kernel
theorem dX5_worthAt_6 : decode cX5_worthAt 6 = .ok (.aload_n 0, 1) := by decide +kernel
theorem dX5_worthAt_7 : decode cX5_worthAt 7 = .ok (.getfield 26, 3) := by decide +kernel
theorem dX5_worthAt_10 : decode cX5_worthAt 10 = .ok (.iconst 2, 1) := by decide +kernel
theorem dX5_worthAt_11 : decode cX5_worthAt 11 = .ok (.iadd, 1) := by decide +kernel
theorem dX5_worthAt_12 : decode cX5_worthAt 12 = .ok (.imul, 1) := by decide +kernel
theorem dX5_worthAt_13 : decode cX5_worthAt 13 = .ok (.iconst 4, 1) := by decide +kernel
theorem dX5_worthAt_14 : decode cX5_worthAt 14 = .ok (.idiv, 1) := by decide +kernel
theorem dX5_worthAt_15 : decode cX5_worthAt 15 = .ok (.ireturn, 1) := by decide +kernel
theorem dX6_init_0 : decode cX6_init 0 = .ok (.aload_n 0, 1) := by decide +kernel
theorem dX6_init_1 : decode cX6_init 1 = .ok (.invokespecial 3, 3) := by decide +kernel
theorem dX6_init_4 : decode cX6_init 4 = .ok (.aload_n 0, 1) := by decide +kernel
theorem dX6_init_5 : decode cX6_init 5 = .ok (.bipush 12, 2) := by decide +kernel
theorem dX6_init_7 : decode cX6_init 7 = .ok (.newarray .int, 2) := by decide +kernel
theorem dX6_init_9 : decode cX6_init 9 = .ok (.putfield 9, 3) := by decide +kernel
theorem dX6_init_12 : decode cX6_init 12 = .ok (.aload_n 0, 1) := by decide +kernel
theorem dX6_init_13 : decode cX6_init 13 = .ok (.bipush 12, 2) := by decide +kernel
theorem dX6_init_15 : decode cX6_init 15 = .ok (.newarray .int, 2) := by decide +kernel
theorem dX6_init_17 : decode cX6_init 17 = .ok (.putfield 15, 3) := by decide +kernel
theorem dX6_init_20 : decode cX6_init 20 = .ok (.aload_n 0, 1) := by decide +kernel
theorem dX6_init_21 : decode cX6_init 21 = .ok (.iconst 0, 1) := by decide +kernel
theorem dX6_init_22 : decode cX6_init 22 = .ok (.putfield 18, 3) := by decide +kernel
theorem dX6_init_25 : decode cX6_init 25 = .ok (.aload_n 0, 1) := by decide +kernel
theorem dX6_init_26 : decode cX6_init 26 = .ok (.iconst 0, 1) := by decide +kernel
theorem dX6_init_27 : decode cX6_init 27 = .ok (.putfield 22, 3) := by decide +kernel
theorem dX6_init_30 : decode cX6_init 30 = .ok (.aload_n 0, 1) := by decide +kernel
theorem dX6_init_31 : decode cX6_init 31 = .ok (.iconst 0, 1) := by decide +kernel
theorem dX6_init_32 : decode cX6_init 32 = .ok (.putfield 25, 3) := by decide +kernel
theorem dX6_init_35 : decode cX6_init 35 = .ok (.return_, 1) := by decide +kernel
theorem dX6_begin_0 : decode cX6_begin 0 = .ok (.aload_n 0, 1) := by decide +kernel
theorem dX6_begin_1 : decode cX6_begin 1 = .ok (.iconst 0, 1) := by decide +kernel
theorem dX6_begin_2 : decode cX6_begin 2 = .ok (.putfield 18, 3) := by decide +kernel
theorem dX6_begin_5 : decode cX6_begin 5 = .ok (.aload_n 0, 1) := by decide +kernel
theorem dX6_begin_6 : decode cX6_begin 6 = .ok (.iload_n 1, 1) := by decide +kernel
theorem dX6_begin_7 : decode cX6_begin 7 = .ok (.putfield 22, 3) := by decide +kernel
theorem dX6_begin_10 : decode cX6_begin 10 = .ok (.aload_n 0, 1) := by decide +kernel
theorem dX6_begin_11 : decode cX6_begin 11 = .ok (.iconst 0, 1) := by decide +kernel
theorem dX6_begin_12 : decode cX6_begin 12 = .ok (.putfield 25, 3) := by decide +kernel
theorem dX6_begin_15 : decode cX6_begin 15 = .ok (.return_, 1) := by decide +kernel
theorem dX6_has_0 : decode cX6_has 0 = .ok (.iload_n 1, 1) := by decide +kernel
theorem dX6_has_1 : decode cX6_has 1 = .ok (.ifCond .lt 15, 3) := by decide +kernel
theorem dX6_has_4 : decode cX6_has 4 = .ok (.iload_n 1, 1) := by decide +kernel
theorem dX6_has_5 : decode cX6_has 5 = .ok (.aload_n 0, 1) := by decide +kernel
theorem dX6_has_6 : decode cX6_has 6 = .ok (.getfield 18, 3) := by decide +kernel
theorem dX6_has_9 : decode cX6_has 9 = .ok (.if_icmp .ge 7, 3) := by decide +kernel
theorem dX6_has_12 : decode cX6_has 12 = .ok (.iconst 1, 1) := by decide +kernel
theorem dX6_has_13 : decode cX6_has 13 = .ok (.goto 4, 3) := by decide +kernel
theorem dX6_has_16 : decode cX6_has 16 = .ok (.iconst 0, 1) := by decide +kernel
theorem dX6_has_17 : decode cX6_has 17 = .ok (.ireturn, 1) := by decide +kernel
theorem dX6_isFull_0 : decode cX6_isFull 0 = .ok (.aload_n 0, 1) := by decide +kernel
theorem dX6_isFull_1 : decode cX6_isFull 1 = .ok (.getfield 18, 3) := by decide +kernel
theorem dX6_isFull_4 : decode cX6_isFull 4 = .ok (.bipush 12, 2) := by decide +kernel
theorem dX6_isFull_6 : decode cX6_isFull 6 = .ok (.if_icmp .lt 7, 3) := by decide +kernel
theorem dX6_isFull_9 : decode cX6_isFull 9 = .ok (.iconst 1, 1) := by decide +kernel
theorem dX6_isFull_10 : decode cX6_isFull 10 = .ok (.goto 4, 3) := by decide +kernel
theorem dX6_isFull_13 : decode cX6_isFull 13 = .ok (.iconst 0, 1) := by decide +kernel
theorem dX6_isFull_14 : decode cX6_isFull 14 = .ok (.ireturn, 1) := by decide +kernel
theorem dX6_standIn_0 : decode cX6_standIn 0 = .ok (.aload_n 0, 1) := by decide +kernel
theorem dX6_standIn_1 : decode cX6_standIn 1 = .ok (.iload_n 2, 1) := by decide +kernel
end
section
theorem dX6_standIn_2 : decode cX6_standIn 2 = .ok (.iload_n 3, 1) := by decide +kernel
theorem dX6_standIn_3 : decode cX6_standIn 3 = .ok (.invokevirtual 28, 3) := by decide +kernel
theorem dX6_standIn_6 : decode cX6_standIn 6 = .ok (.ifCond .eq 10, 3) := by decide +kernel
theorem dX6_standIn_9 : decode cX6_standIn 9 = .ok (.iload 4, 2) := by decide +kernel
theorem dX6_standIn_11 : decode cX6_standIn 11 = .ok (.iconst 2, 1) := by decide +kernel
theorem dX6_standIn_12 : decode cX6_standIn 12 = .ok (.idiv, 1) := by decide +kernel
theorem dX6_standIn_13 : decode cX6_standIn 13 = .ok (.goto 5, 3) := by decide +kernel
theorem dX6_standIn_16 : decode cX6_standIn 16 = .ok (.iload 4, 2) := by decide +kernel
theorem dX6_standIn_18 : decode cX6_standIn 18 = .ok (.istore 5, 2) := by decide +kernel
theorem dX6_standIn_20 : decode cX6_standIn 20 = .ok (.aload_n 0, 1) := by decide +kernel
theorem dX6_standIn_21 : decode cX6_standIn 21 = .ok (.getfield 22, 3) := by decide +kernel
theorem dX6_standIn_24 : decode cX6_standIn 24 = .ok (.aload_n 1, 1) := by decide +kernel
theorem dX6_standIn_25 : decode cX6_standIn 25 = .ok (.iload 5, 2) := by decide +kernel
theorem dX6_standIn_27 : decode cX6_standIn 27 = .ok (.invokevirtual 32, 3) := by decide +kernel
theorem dX6_standIn_30 : decode cX6_standIn 30 = .ok (.invokestatic 38, 3) := by decide +kernel
theorem dX6_standIn_33 : decode cX6_standIn 33 = .ok (.istore 6, 2) := by decide +kernel
theorem dX6_standIn_35 : decode cX6_standIn 35 = .ok (.aload_n 0, 1) := by decide +kernel
theorem dX6_standIn_36 : decode cX6_standIn 36 = .ok (.dup, 1) := by decide +kernel
theorem dX6_standIn_37 : decode cX6_standIn 37 = .ok (.getfield 25, 3) := by decide +kernel
theorem dX6_standIn_40 : decode cX6_standIn 40 = .ok (.iload 6, 2) := by decide +kernel
theorem dX6_standIn_42 : decode cX6_standIn 42 = .ok (.iadd, 1) := by decide +kernel
theorem dX6_standIn_43 : decode cX6_standIn 43 = .ok (.putfield 25, 3) := by decide +kernel
theorem dX6_standIn_46 : decode cX6_standIn 46 = .ok (.aload_n 0, 1) := by decide +kernel
theorem dX6_standIn_47 : decode cX6_standIn 47 = .ok (.dup, 1) := by decide +kernel
theorem dX6_standIn_48 : decode cX6_standIn 48 = .ok (.getfield 22, 3) := by decide +kernel
theorem dX6_standIn_51 : decode cX6_standIn 51 = .ok (.iload 6, 2) := by decide +kernel
theorem dX6_standIn_53 : decode cX6_standIn 53 = .ok (.isub, 1) := by decide +kernel
theorem dX6_standIn_54 : decode cX6_standIn 54 = .ok (.putfield 22, 3) := by decide +kernel
theorem dX6_standIn_57 : decode cX6_standIn 57 = .ok (.aload_n 0, 1) := by decide +kernel
theorem dX6_standIn_58 : decode cX6_standIn 58 = .ok (.dup, 1) := by decide +kernel
theorem dX6_standIn_59 : decode cX6_standIn 59 = .ok (.getfield 22, 3) := by decide +kernel
theorem dX6_standIn_62 : decode cX6_standIn 62 = .ok (.aload_n 1, 1) := by decide +kernel
theorem dX6_standIn_63 : decode cX6_standIn 63 = .ok (.aload_n 0, 1) := by decide +kernel
theorem dX6_standIn_64 : decode cX6_standIn 64 = .ok (.getfield 22, 3) := by decide +kernel
theorem dX6_standIn_67 : decode cX6_standIn 67 = .ok (.invokevirtual 44, 3) := by decide +kernel
theorem dX6_standIn_70 : decode cX6_standIn 70 = .ok (.isub, 1) := by decide +kernel
theorem dX6_standIn_71 : decode cX6_standIn 71 = .ok (.putfield 22, 3) := by decide +kernel
theorem dX6_standIn_74 : decode cX6_standIn 74 = .ok (.aload_n 0, 1) := by decide +kernel
theorem dX6_standIn_75 : decode cX6_standIn 75 = .ok (.getfield 9, 3) := by decide +kernel
theorem dX6_standIn_78 : decode cX6_standIn 78 = .ok (.aload_n 0, 1) := by decide +kernel
theorem dX6_standIn_79 : decode cX6_standIn 79 = .ok (.getfield 18, 3) := by decide +kernel
theorem dX6_standIn_82 : decode cX6_standIn 82 = .ok (.iload_n 2, 1) := by decide +kernel
theorem dX6_standIn_83 : decode cX6_standIn 83 = .ok (.iastore, 1) := by decide +kernel
theorem dX6_standIn_84 : decode cX6_standIn 84 = .ok (.aload_n 0, 1) := by decide +kernel
theorem dX6_standIn_85 : decode cX6_standIn 85 = .ok (.getfield 15, 3) := by decide +kernel
theorem dX6_standIn_88 : decode cX6_standIn 88 = .ok (.aload_n 0, 1) := by decide +kernel
theorem dX6_standIn_89 : decode cX6_standIn 89 = .ok (.getfield 18, 3) := by decide +kernel
theorem dX6_standIn_92 : decode cX6_standIn 92 = .ok (.iload_n 3, 1) := by decide +kernel
theorem dX6_standIn_93 : decode cX6_standIn 93 = .ok (.iastore, 1) := by decide +kernel
theorem dX6_standIn_94 : decode cX6_standIn 94 = .ok (.aload_n 0, 1) := by decide +kernel
theorem dX6_standIn_95 : decode cX6_standIn 95 = .ok (.dup, 1) := by decide +kernel
theorem dX6_standIn_96 : decode cX6_standIn 96 = .ok (.getfield 18, 3) := by decide +kernel
theorem dX6_standIn_99 : decode cX6_standIn 99 = .ok (.iconst 1, 1) := by decide +kernel
theorem dX6_standIn_100 : decode cX6_standIn 100 = .ok (.iadd, 1) := by decide +kernel
theorem dX6_standIn_101 : decode cX6_standIn 101 = .ok (.putfield 18, 3) := by decide +kernel
theorem dX6_standIn_104 : decode cX6_standIn 104 = .ok (.return_, 1) := by decide +kernel
theorem dX6_stepBack_0 : decode cX6_stepBack 0 = .ok (.aload_n 0, 1) := by decide +kernel
theorem dX6_stepBack_1 : decode cX6_stepBack 1 = .ok (.dup, 1) := by decide +kernel
theorem dX6_stepBack_2 : decode cX6_stepBack 2 = .ok (.getfield 18, 3) := by decide +kernel
theorem dX6_stepBack_5 : decode cX6_stepBack 5 = .ok (.iconst 1, 1) := by decide +kernel
theorem dX6_stepBack_6 : decode cX6_stepBack 6 = .ok (.isub, 1) := by decide +kernel
theorem dX6_stepBack_7 : decode cX6_stepBack 7 = .ok (.putfield 18, 3) := by decide +kernel
theorem dX6_stepBack_10 : decode cX6_stepBack 10 = .ok (.aload_n 0, 1) := by decide +kernel
theorem dX6_stepBack_11 : decode cX6_stepBack 11 = .ok (.iload_n 1, 1) := by decide +kernel
theorem dX6_stepBack_12 : decode cX6_stepBack 12 = .ok (.putfield 22, 3) := by decide +kernel
theorem dX6_stepBack_15 : decode cX6_stepBack 15 = .ok (.aload_n 0, 1) := by decide +kernel
theorem dX6_stepBack_16 : decode cX6_stepBack 16 = .ok (.iload_n 2, 1) := by decide +kernel
theorem dX6_stepBack_17 : decode cX6_stepBack 17 = .ok (.putfield 25, 3) := by decide +kernel
theorem dX6_stepBack_20 : decode cX6_stepBack 20 = .ok (.return_, 1) := by decide +kernel
theorem dX6_copyFrom_0 : decode cX6_copyFrom 0 = .ok (.iconst 0, 1) := by decide +kernel
theorem dX6_copyFrom_1 : decode cX6_copyFrom 1 = .ok (.istore_n 2, 1) := by decide +kernel
theorem dX6_copyFrom_2 : decode cX6_copyFrom 2 = .ok (.iload_n 2, 1) := by decide +kernel
theorem dX6_copyFrom_3 : decode cX6_copyFrom 3 = .ok (.aload_n 1, 1) := by decide +kernel
theorem dX6_copyFrom_4 : decode cX6_copyFrom 4 = .ok (.getfield 18, 3) := by decide +kernel
theorem dX6_copyFrom_7 : decode cX6_copyFrom 7 = .ok (.if_icmp .ge 33, 3) := by decide +kernel
theorem dX6_copyFrom_10 : decode cX6_copyFrom 10 = .ok (.aload_n 0, 1) := by decide +kernel
theorem dX6_copyFrom_11 : decode cX6_copyFrom 11 = .ok (.getfield 9, 3) := by decide +kernel
theorem dX6_copyFrom_14 : decode cX6_copyFrom 14 = .ok (.iload_n 2, 1) := by decide +kernel
theorem dX6_copyFrom_15 : decode cX6_copyFrom 15 = .ok (.aload_n 1, 1) := by decide +kernel
theorem dX6_copyFrom_16 : decode cX6_copyFrom 16 = .ok (.getfield 9, 3) := by decide +kernel
theorem dX6_copyFrom_19 : decode cX6_copyFrom 19 = .ok (.iload_n 2, 1) := by decide +kernel
theorem dX6_copyFrom_20 : decode cX6_copyFrom 20 = .ok (.iaload, 1) := by decide +kernel
theorem dX6_copyFrom_21 : decode cX6_copyFrom 21 = .ok (.iastore, 1) := by decide +kernel
theorem dX6_copyFrom_22 : decode cX6_copyFrom 22 = .ok (.aload_n 0, 1) := by decide +kernel
theorem dX6_copyFrom_23 : decode cX6_copyFrom 23 = .ok (.getfield 15, 3) := by decide +kernel
theorem dX6_copyFrom_26 : decode cX6_copyFrom 26 = .ok (.iload_n 2, 1) := by decide +kernel
theorem dX6_copyFrom_27 : decode cX6_copyFrom 27 = .ok (.aload_n 1, 1) := by decide +kernel
theorem dX6_copyFrom_28 : decode cX6_copyFrom 28 = .ok (.getfield 15, 3) := by decide +kernel
theorem dX6_copyFrom_31 : decode cX6_copyFrom 31 = .ok (.iload_n 2, 1) := by decide +kernel
theorem dX6_copyFrom_32 : decode cX6_copyFrom 32 = .ok (.iaload, 1) := by decide +kernel
theorem dX6_copyFrom_33 : decode cX6_copyFrom 33 = .ok (.iastore, 1) := by decide +kernel
theorem dX6_copyFrom_34 : decode cX6_copyFrom 34 = .ok (.iinc 2 1, 3) := by decide +kernel
theorem dX6_copyFrom_37 : decode cX6_copyFrom 37 = .ok (.goto (-35), 3) := by decide +kernel
theorem dX6_copyFrom_40 : decode cX6_copyFrom 40 = .ok (.aload_n 0, 1) := by decide +kernel
theorem dX6_copyFrom_41 : decode cX6_copyFrom 41 = .ok (.aload_n 1, 1) := by decide +kernel
theorem dX6_copyFrom_42 : decode cX6_copyFrom 42 = .ok (.getfield 18, 3) := by decide +kernel
theorem dX6_copyFrom_45 : decode cX6_copyFrom 45 = .ok (.putfield 18, 3) := by decide +kernel
theorem dX6_copyFrom_48 : decode cX6_copyFrom 48 = .ok (.aload_n 0, 1) := by decide +kernel
theorem dX6_copyFrom_49 : decode cX6_copyFrom 49 = .ok (.aload_n 1, 1) := by decide +kernel
theorem dX6_copyFrom_50 : decode cX6_copyFrom 50 = .ok (.getfield 22, 3) := by decide +kernel
theorem dX6_copyFrom_53 : decode cX6_copyFrom 53 = .ok (.putfield 22, 3) := by decide +kernel
theorem dX6_copyFrom_56 : decode cX6_copyFrom 56 = .ok (.aload_n 0, 1) := by decide +kernel
theorem dX6_copyFrom_57 : decode cX6_copyFrom 57 = .ok (.aload_n 1, 1) := by decide +kernel
theorem dX6_copyFrom_58 : decode cX6_copyFrom 58 = .ok (.getfield 25, 3) := by decide +kernel
theorem dX6_copyFrom_61 : decode cX6_copyFrom 61 = .ok (.putfield 25, 3) := by decide +kernel
theorem dX6_copyFrom_64 : decode cX6_copyFrom 64 = .ok (.return_, 1) := by decide +kernel
theorem dX6_wasLatelyIn_0 : decode cX6_wasLatelyIn 0 = .ok (.iconst 0, 1) := by decide +kernel
theorem dX6_wasLatelyIn_1 : decode cX6_wasLatelyIn 1 = .ok (.istore_n 3, 1) := by decide +kernel
theorem dX6_wasLatelyIn_2 : decode cX6_wasLatelyIn 2 = .ok (.iload_n 3, 1) := by decide +kernel
theorem dX6_wasLatelyIn_3 : decode cX6_wasLatelyIn 3 = .ok (.aload_n 0, 1) := by decide +kernel
theorem dX6_wasLatelyIn_4 : decode cX6_wasLatelyIn 4 = .ok (.getfield 18, 3) := by decide +kernel
theorem dX6_wasLatelyIn_7 : decode cX6_wasLatelyIn 7 = .ok (.if_icmp .ge 33, 3) := by decide +kernel
theorem dX6_wasLatelyIn_10 : decode cX6_wasLatelyIn 10 = .ok (.aload_n 0, 1) := by decide +kernel
theorem dX6_wasLatelyIn_11 : decode cX6_wasLatelyIn 11 = .ok (.getfield 9, 3) := by decide +kernel
theorem dX6_wasLatelyIn_14 : decode cX6_wasLatelyIn 14 = .ok (.iload_n 3, 1) := by decide +kernel
theorem dX6_wasLatelyIn_15 : decode cX6_wasLatelyIn 15 = .ok (.iaload, 1) := by decide +kernel
theorem dX6_wasLatelyIn_16 : decode cX6_wasLatelyIn 16 = .ok (.iload_n 1, 1) := by decide +kernel
theorem dX6_wasLatelyIn_17 : decode cX6_wasLatelyIn 17 = .ok (.if_icmp .ne 17, 3) := by decide +kernel
theorem dX6_wasLatelyIn_20 : decode cX6_wasLatelyIn 20 = .ok (.iload_n 2, 1) := by decide +kernel
theorem dX6_wasLatelyIn_21 : decode cX6_wasLatelyIn 21 = .ok (.aload_n 0, 1) := by decide +kernel
theorem dX6_wasLatelyIn_22 : decode cX6_wasLatelyIn 22 = .ok (.getfield 15, 3) := by decide +kernel
theorem dX6_wasLatelyIn_25 : decode cX6_wasLatelyIn 25 = .ok (.iload_n 3, 1) := by decide +kernel
theorem dX6_wasLatelyIn_26 : decode cX6_wasLatelyIn 26 = .ok (.iaload, 1) := by decide +kernel
theorem dX6_wasLatelyIn_27 : decode cX6_wasLatelyIn 27 = .ok (.isub, 1) := by decide +kernel
theorem dX6_wasLatelyIn_28 : decode cX6_wasLatelyIn 28 = .ok (.iconst 2, 1) := by decide +kernel
theorem dX6_wasLatelyIn_29 : decode cX6_wasLatelyIn 29 = .ok (.if_icmp .gt 5, 3) := by decide +kernel
theorem dX6_wasLatelyIn_32 : decode cX6_wasLatelyIn 32 = .ok (.iconst 1, 1) := by decide +kernel
theorem dX6_wasLatelyIn_33 : decode cX6_wasLatelyIn 33 = .ok (.ireturn, 1) := by decide +kernel
theorem dX6_wasLatelyIn_34 : decode cX6_wasLatelyIn 34 = .ok (.iinc 3 1, 3) := by decide +kernel
theorem dX6_wasLatelyIn_37 : decode cX6_wasLatelyIn 37 = .ok (.goto (-35), 3) := by decide +kernel
theorem dX6_wasLatelyIn_40 : decode cX6_wasLatelyIn 40 = .ok (.iconst 0, 1) := by decide +kernel
theorem dX6_wasLatelyIn_41 : decode cX6_wasLatelyIn 41 = .ok (.ireturn, 1) := by decide +kernel
theorem dX7_init_0 : decode cX7_init 0 = .ok (.aload_n 0, 1) := by decide +kernel
theorem dX7_init_1 : decode cX7_init 1 = .ok (.invokespecial 3, 3) := by decide +kernel
theorem dX7_init_4 : decode cX7_init 4 = .ok (.aload_n 0, 1) := by decide +kernel
theorem dX7_init_5 : decode cX7_init 5 = .ok (.iconst 0, 1) := by decide +kernel
theorem dX7_init_6 : decode cX7_init 6 = .ok (.putfield 9, 3) := by decide +kernel
theorem dX7_init_9 : decode cX7_init 9 = .ok (.aload_n 0, 1) := by decide +kernel
theorem dX7_init_10 : decode cX7_init 10 = .ok (.bipush 63, 2) := by decide +kernel
theorem dX7_init_12 : decode cX7_init 12 = .ok (.putfield 15, 3) := by decide +kernel
theorem dX7_init_15 : decode cX7_init 15 = .ok (.return_, 1) := by decide +kernel
theorem dX7_isLicensed_0 : decode cX7_isLicensed 0 = .ok (.aload_n 0, 1) := by decide +kernel
theorem dX7_isLicensed_1 : decode cX7_isLicensed 1 = .ok (.getfield 15, 3) := by decide +kernel
theorem dX7_isLicensed_4 : decode cX7_isLicensed 4 = .ok (.iload_n 1, 1) := by decide +kernel
theorem dX7_isLicensed_5 : decode cX7_isLicensed 5 = .ok (.ishr, 1) := by decide +kernel
theorem dX7_isLicensed_6 : decode cX7_isLicensed 6 = .ok (.iconst 1, 1) := by decide +kernel
theorem dX7_isLicensed_7 : decode cX7_isLicensed 7 = .ok (.iand, 1) := by decide +kernel
theorem dX7_isLicensed_8 : decode cX7_isLicensed 8 = .ok (.iconst 1, 1) := by decide +kernel
theorem dX7_isLicensed_9 : decode cX7_isLicensed 9 = .ok (.if_icmp .ne 7, 3) := by decide +kernel
theorem dX7_isLicensed_12 : decode cX7_isLicensed 12 = .ok (.iconst 1, 1) := by decide +kernel
theorem dX7_isLicensed_13 : decode cX7_isLicensed 13 = .ok (.goto 4, 3) := by decide +kernel
theorem dX7_isLicensed_16 : decode cX7_isLicensed 16 = .ok (.iconst 0, 1) := by decide +kernel
theorem dX7_isLicensed_17 : decode cX7_isLicensed 17 = .ok (.ireturn, 1) := by decide +kernel
theorem dX7_mostSoldOf_0 : decode cX7_mostSoldOf 0 = .ok (.iload_n 1, 1) := by decide +kernel
theorem dX7_mostSoldOf_1 : decode cX7_mostSoldOf 1 = .ok (.ireturn, 1) := by decide +kernel
theorem dX7_meltingOf_0 : decode cX7_meltingOf 0 = .ok (.iload_n 1, 1) := by decide +kernel
theorem dX7_meltingOf_1 : decode cX7_meltingOf 1 = .ok (.bipush 10, 2) := by decide +kernel
theorem dX7_meltingOf_3 : decode cX7_meltingOf 3 = .ok (.idiv, 1) := by decide +kernel
theorem dX7_meltingOf_4 : decode cX7_meltingOf 4 = .ok (.ireturn, 1) := by decide +kernel
theorem dX7_hoursAcross_0 : decode cX7_hoursAcross 0 = .ok (.iconst 1, 1) := by decide +kernel
theorem dX7_hoursAcross_1 : decode cX7_hoursAcross 1 = .ok (.iload_n 1, 1) := by decide +kernel
theorem dX7_hoursAcross_2 : decode cX7_hoursAcross 2 = .ok (.iadd, 1) := by decide +kernel
theorem dX7_hoursAcross_3 : decode cX7_hoursAcross 3 = .ok (.ireturn, 1) := by decide +kernel
theorem dX8_init_0 : decode cX8_init 0 = .ok (.aload_n 0, 1) := by decide +kernel
theorem dX8_init_1 : decode cX8_init 1 = .ok (.invokespecial 3, 3) := by decide +kernel
theorem dX8_init_4 : decode cX8_init 4 = .ok (.aload_n 0, 1) := by decide +kernel
theorem dX8_init_5 : decode cX8_init 5 = .ok (.bipush 6, 2) := by decide +kernel
theorem dX8_init_7 : decode cX8_init 7 = .ok (.newarray .int, 2) := by decide +kernel
theorem dX8_init_9 : decode cX8_init 9 = .ok (.putfield 9, 3) := by decide +kernel
theorem dX8_init_12 : decode cX8_init 12 = .ok (.aload_n 0, 1) := by decide +kernel
theorem dX8_init_13 : decode cX8_init 13 = .ok (.new 13, 3) := by decide +kernel
theorem dX8_init_16 : decode cX8_init 16 = .ok (.dup, 1) := by decide +kernel
theorem dX8_init_17 : decode cX8_init 17 = .ok (.invokespecial 15, 3) := by decide +kernel
theorem dX8_init_20 : decode cX8_init 20 = .ok (.putfield 16, 3) := by decide +kernel
theorem dX8_init_23 : decode cX8_init 23 = .ok (.aload_n 0, 1) := by decide +kernel
theorem dX8_init_24 : decode cX8_init 24 = .ok (.new 20, 3) := by decide +kernel
theorem dX8_init_27 : decode cX8_init 27 = .ok (.dup, 1) := by decide +kernel
theorem dX8_init_28 : decode cX8_init 28 = .ok (.invokespecial 22, 3) := by decide +kernel
theorem dX8_init_31 : decode cX8_init 31 = .ok (.putfield 23, 3) := by decide +kernel
theorem dX8_init_34 : decode cX8_init 34 = .ok (.aload_n 0, 1) := by decide +kernel
theorem dX8_init_35 : decode cX8_init 35 = .ok (.iconst 4, 1) := by decide +kernel
theorem dX8_init_36 : decode cX8_init 36 = .ok (.anewarray 27, 3) := by decide +kernel
theorem dX8_init_39 : decode cX8_init 39 = .ok (.putfield 29, 3) := by decide +kernel
theorem dX8_init_42 : decode cX8_init 42 = .ok (.aload_n 0, 1) := by decide +kernel
theorem dX8_init_43 : decode cX8_init 43 = .ok (.iconst 0, 1) := by decide +kernel
theorem dX8_init_44 : decode cX8_init 44 = .ok (.putfield 33, 3) := by decide +kernel
theorem dX8_init_47 : decode cX8_init 47 = .ok (.aload_n 0, 1) := by decide +kernel
theorem dX8_init_48 : decode cX8_init 48 = .ok (.new 37, 3) := by decide +kernel
theorem dX8_init_51 : decode cX8_init 51 = .ok (.dup, 1) := by decide +kernel
theorem dX8_init_52 : decode cX8_init 52 = .ok (.invokespecial 39, 3) := by decide +kernel
theorem dX8_init_55 : decode cX8_init 55 = .ok (.putfield 40, 3) := by decide +kernel
theorem dX8_init_58 : decode cX8_init 58 = .ok (.aload_n 0, 1) := by decide +kernel
theorem dX8_init_59 : decode cX8_init 59 = .ok (.new 37, 3) := by decide +kernel
theorem dX8_init_62 : decode cX8_init 62 = .ok (.dup, 1) := by decide +kernel
theorem dX8_init_63 : decode cX8_init 63 = .ok (.invokespecial 39, 3) := by decide +kernel
theorem dX8_init_66 : decode cX8_init 66 = .ok (.putfield 44, 3) := by decide +kernel
theorem dX8_init_69 : decode cX8_init 69 = .ok (.aload_n 0, 1) := by decide +kernel
theorem dX8_init_70 : decode cX8_init 70 = .ok (.new 47, 3) := by decide +kernel
theorem dX8_init_73 : decode cX8_init 73 = .ok (.dup, 1) := by decide +kernel
theorem dX8_init_74 : decode cX8_init 74 = .ok (.invokespecial 49, 3) := by decide +kernel
theorem dX8_init_77 : decode cX8_init 77 = .ok (.putfield 50, 3) := by decide +kernel
theorem dX8_init_80 : decode cX8_init 80 = .ok (.aload_n 0, 1) := by decide +kernel
theorem dX8_init_81 : decode cX8_init 81 = .ok (.new 54, 3) := by decide +kernel
theorem dX8_init_84 : decode cX8_init 84 = .ok (.dup, 1) := by decide +kernel
theorem dX8_init_85 : decode cX8_init 85 = .ok (.invokespecial 56, 3) := by decide +kernel
theorem dX8_init_88 : decode cX8_init 88 = .ok (.putfield 57, 3) := by decide +kernel
theorem dX8_init_91 : decode cX8_init 91 = .ok (.aload_n 0, 1) := by decide +kernel
theorem dX8_init_92 : decode cX8_init 92 = .ok (.bipush 12, 2) := by decide +kernel
theorem dX8_init_94 : decode cX8_init 94 = .ok (.newarray .int, 2) := by decide +kernel
theorem dX8_init_96 : decode cX8_init 96 = .ok (.putfield 61, 3) := by decide +kernel
theorem dX8_init_99 : decode cX8_init 99 = .ok (.aload_n 0, 1) := by decide +kernel
theorem dX8_init_100 : decode cX8_init 100 = .ok (.iconst 0, 1) := by decide +kernel
theorem dX8_init_101 : decode cX8_init 101 = .ok (.putfield 64, 3) := by decide +kernel
theorem dX8_init_104 : decode cX8_init 104 = .ok (.return_, 1) := by decide +kernel
theorem dX8_street_0 : decode cX8_street 0 = .ok (.iload_n 1, 1) := by decide +kernel
theorem dX8_street_1 : decode cX8_street 1 = .ok (.ifCond .eq 15, 3) := by decide +kernel
theorem dX8_street_4 : decode cX8_street 4 = .ok (.iload_n 1, 1) := by decide +kernel
theorem dX8_street_5 : decode cX8_street 5 = .ok (.iconst 1, 1) := by decide +kernel
theorem dX8_street_6 : decode cX8_street 6 = .ok (.if_icmp .eq 10, 3) := by decide +kernel
theorem dX8_street_9 : decode cX8_street 9 = .ok (.aload_n 0, 1) := by decide +kernel
theorem dX8_street_10 : decode cX8_street 10 = .ok (.ldc 67, 2) := by decide +kernel
theorem dX8_street_12 : decode cX8_street 12 = .ok (.invokevirtual 68, 3) := by decide +kernel
theorem dX8_street_15 : decode cX8_street 15 = .ok (.ireturn, 1) := by decide +kernel
theorem dX8_street_16 : decode cX8_street 16 = .ok (.aload_n 0, 1) := by decide +kernel
theorem dX8_street_17 : decode cX8_street 17 = .ok (.getfield 16, 3) := by decide +kernel
theorem dX8_street_20 : decode cX8_street 20 = .ok (.invokevirtual 72, 3) := by decide +kernel
theorem dX8_street_23 : decode cX8_street 23 = .ok (.ifCond .eq 10, 3) := by decide +kernel
theorem dX8_street_26 : decode cX8_street 26 = .ok (.aload_n 0, 1) := by decide +kernel
theorem dX8_street_27 : decode cX8_street 27 = .ok (.ldc 76, 2) := by decide +kernel
theorem dX8_street_29 : decode cX8_street 29 = .ok (.invokevirtual 68, 3) := by decide +kernel
theorem dX8_street_32 : decode cX8_street 32 = .ok (.ireturn, 1) := by decide +kernel
theorem dX8_street_33 : decode cX8_street 33 = .ok (.aload_n 0, 1) := by decide +kernel
theorem dX8_street_34 : decode cX8_street 34 = .ok (.getfield 16, 3) := by decide +kernel
theorem dX8_street_37 : decode cX8_street 37 = .ok (.iload_n 1, 1) := by decide +kernel
theorem dX8_street_38 : decode cX8_street 38 = .ok (.iconst 1, 1) := by decide +kernel
theorem dX8_street_39 : decode cX8_street 39 = .ok (.if_icmp .ne 7, 3) := by decide +kernel
theorem dX8_street_42 : decode cX8_street 42 = .ok (.iconst 1, 1) := by decide +kernel
theorem dX8_street_43 : decode cX8_street 43 = .ok (.goto 4, 3) := by decide +kernel
theorem dX8_street_46 : decode cX8_street 46 = .ok (.iconst 0, 1) := by decide +kernel
theorem dX8_street_47 : decode cX8_street 47 = .ok (.invokevirtual 77, 3) := by decide +kernel
theorem dX8_street_50 : decode cX8_street 50 = .ok (.ireturn, 1) := by decide +kernel
theorem dX8_way_0 : decode cX8_way 0 = .ok (.aload_n 0, 1) := by decide +kernel
theorem dX8_way_1 : decode cX8_way 1 = .ok (.getfield 16, 3) := by decide +kernel
theorem dX8_way_4 : decode cX8_way 4 = .ok (.iload_n 1, 1) := by decide +kernel
theorem dX8_way_5 : decode cX8_way 5 = .ok (.invokevirtual 81, 3) := by decide +kernel
theorem dX8_way_8 : decode cX8_way 8 = .ok (.ifCond .eq 27, 3) := by decide +kernel
theorem dX8_way_11 : decode cX8_way 11 = .ok (.aload_n 0, 1) := by decide +kernel
theorem dX8_way_12 : decode cX8_way 12 = .ok (.getfield 16, 3) := by decide +kernel
theorem dX8_way_15 : decode cX8_way 15 = .ok (.iload_n 2, 1) := by decide +kernel
theorem dX8_way_16 : decode cX8_way 16 = .ok (.invokevirtual 81, 3) := by decide +kernel
theorem dX8_way_19 : decode cX8_way 19 = .ok (.ifCond .eq 16, 3) := by decide +kernel
theorem dX8_way_22 : decode cX8_way 22 = .ok (.iload_n 1, 1) := by decide +kernel
theorem dX8_way_23 : decode cX8_way 23 = .ok (.iload_n 2, 1) := by decide +kernel
theorem dX8_way_24 : decode cX8_way 24 = .ok (.if_icmp .eq 11, 3) := by decide +kernel
theorem dX8_way_27 : decode cX8_way 27 = .ok (.iload_n 3, 1) := by decide +kernel
theorem dX8_way_28 : decode cX8_way 28 = .ok (.iconst 3, 1) := by decide +kernel
theorem dX8_way_29 : decode cX8_way 29 = .ok (.invokestatic 85, 3) := by decide +kernel
theorem dX8_way_32 : decode cX8_way 32 = .ok (.ifCond .ne 10, 3) := by decide +kernel
theorem dX8_way_35 : decode cX8_way 35 = .ok (.aload_n 0, 1) := by decide +kernel
theorem dX8_way_36 : decode cX8_way 36 = .ok (.ldc 67, 2) := by decide +kernel
theorem dX8_way_38 : decode cX8_way 38 = .ok (.invokevirtual 68, 3) := by decide +kernel
theorem dX8_way_41 : decode cX8_way 41 = .ok (.ireturn, 1) := by decide +kernel
theorem dX8_way_42 : decode cX8_way 42 = .ok (.aload_n 0, 1) := by decide +kernel
theorem dX8_way_43 : decode cX8_way 43 = .ok (.getfield 16, 3) := by decide +kernel
theorem dX8_way_46 : decode cX8_way 46 = .ok (.iload_n 1, 1) := by decide +kernel
theorem dX8_way_47 : decode cX8_way 47 = .ok (.iload_n 2, 1) := by decide +kernel
theorem dX8_way_48 : decode cX8_way 48 = .ok (.invokevirtual 89, 3) := by decide +kernel
theorem dX8_way_51 : decode cX8_way 51 = .ok (.istore 4, 2) := by decide +kernel
theorem dX8_way_53 : decode cX8_way 53 = .ok (.aload_n 0, 1) := by decide +kernel
theorem dX8_way_54 : decode cX8_way 54 = .ok (.getfield 16, 3) := by decide +kernel
theorem dX8_way_57 : decode cX8_way 57 = .ok (.iload_n 1, 1) := by decide +kernel
theorem dX8_way_58 : decode cX8_way 58 = .ok (.iload_n 2, 1) := by decide +kernel
theorem dX8_way_59 : decode cX8_way 59 = .ok (.iload_n 3, 1) := by decide +kernel
theorem dX8_way_60 : decode cX8_way 60 = .ok (.invokevirtual 93, 3) := by decide +kernel
theorem dX8_way_63 : decode cX8_way 63 = .ok (.iload 4, 2) := by decide +kernel
theorem dX8_way_65 : decode cX8_way 65 = .ok (.ireturn, 1) := by decide +kernel
theorem dX8_wish_0 : decode cX8_wish 0 = .ok (.aload_n 0, 1) := by decide +kernel
theorem dX8_wish_1 : decode cX8_wish 1 = .ok (.getfield 16, 3) := by decide +kernel
theorem dX8_wish_4 : decode cX8_wish 4 = .ok (.iload_n 1, 1) := by decide +kernel
theorem dX8_wish_5 : decode cX8_wish 5 = .ok (.invokevirtual 81, 3) := by decide +kernel
theorem dX8_wish_8 : decode cX8_wish 8 = .ok (.ifCond .eq 20, 3) := by decide +kernel
theorem dX8_wish_11 : decode cX8_wish 11 = .ok (.iload_n 2, 1) := by decide +kernel
theorem dX8_wish_12 : decode cX8_wish 12 = .ok (.invokestatic 97, 3) := by decide +kernel
theorem dX8_wish_15 : decode cX8_wish 15 = .ok (.ifCond .eq 13, 3) := by decide +kernel
theorem dX8_wish_18 : decode cX8_wish 18 = .ok (.iload_n 3, 1) := by decide +kernel
theorem dX8_wish_19 : decode cX8_wish 19 = .ok (.sipush 200, 3) := by decide +kernel
theorem dX8_wish_22 : decode cX8_wish 22 = .ok (.invokestatic 85, 3) := by decide +kernel
theorem dX8_wish_25 : decode cX8_wish 25 = .ok (.ifCond .ne 10, 3) := by decide +kernel
theorem dX8_wish_28 : decode cX8_wish 28 = .ok (.aload_n 0, 1) := by decide +kernel
theorem dX8_wish_29 : decode cX8_wish 29 = .ok (.ldc 67, 2) := by decide +kernel
theorem dX8_wish_31 : decode cX8_wish 31 = .ok (.invokevirtual 68, 3) := by decide +kernel
theorem dX8_wish_34 : decode cX8_wish 34 = .ok (.ireturn, 1) := by decide +kernel
theorem dX8_wish_35 : decode cX8_wish 35 = .ok (.aload_n 0, 1) := by decide +kernel
theorem dX8_wish_36 : decode cX8_wish 36 = .ok (.getfield 16, 3) := by decide +kernel
theorem dX8_wish_39 : decode cX8_wish 39 = .ok (.iload_n 1, 1) := by decide +kernel
theorem dX8_wish_40 : decode cX8_wish 40 = .ok (.iload_n 2, 1) := by decide +kernel
theorem dX8_wish_41 : decode cX8_wish 41 = .ok (.invokevirtual 100, 3) := by decide +kernel
theorem dX8_wish_44 : decode cX8_wish 44 = .ok (.istore 4, 2) := by decide +kernel
theorem dX8_wish_46 : decode cX8_wish 46 = .ok (.aload_n 0, 1) := by decide +kernel
theorem dX8_wish_47 : decode cX8_wish 47 = .ok (.getfield 16, 3) := by decide +kernel
theorem dX8_wish_50 : decode cX8_wish 50 = .ok (.iload_n 1, 1) := by decide +kernel
theorem dX8_wish_51 : decode cX8_wish 51 = .ok (.iload_n 2, 1) := by decide +kernel
theorem dX8_wish_52 : decode cX8_wish 52 = .ok (.iload_n 3, 1) := by decide +kernel
theorem dX8_wish_53 : decode cX8_wish 53 = .ok (.invokevirtual 103, 3) := by decide +kernel
theorem dX8_wish_56 : decode cX8_wish 56 = .ok (.iload 4, 2) := by decide +kernel
theorem dX8_wish_58 : decode cX8_wish 58 = .ok (.ireturn, 1) := by decide +kernel
theorem dX8_heat_0 : decode cX8_heat 0 = .ok (.iload_n 1, 1) := by decide +kernel
theorem dX8_heat_1 : decode cX8_heat 1 = .ok (.iconst 4, 1) := by decide +kernel
theorem dX8_heat_2 : decode cX8_heat 2 = .ok (.invokestatic 85, 3) := by decide +kernel
theorem dX8_heat_5 : decode cX8_heat 5 = .ok (.ifCond .ne 10, 3) := by decide +kernel
theorem dX8_heat_8 : decode cX8_heat 8 = .ok (.aload_n 0, 1) := by decide +kernel
theorem dX8_heat_9 : decode cX8_heat 9 = .ok (.ldc 67, 2) := by decide +kernel
theorem dX8_heat_11 : decode cX8_heat 11 = .ok (.invokevirtual 68, 3) := by decide +kernel
theorem dX8_heat_14 : decode cX8_heat 14 = .ok (.ireturn, 1) := by decide +kernel
theorem dX8_heat_15 : decode cX8_heat 15 = .ok (.aload_n 0, 1) := by decide +kernel
theorem dX8_heat_16 : decode cX8_heat 16 = .ok (.getfield 16, 3) := by decide +kernel
theorem dX8_heat_19 : decode cX8_heat 19 = .ok (.getfield 106, 3) := by decide +kernel
theorem dX8_heat_22 : decode cX8_heat 22 = .ok (.istore_n 2, 1) := by decide +kernel
theorem dX8_heat_23 : decode cX8_heat 23 = .ok (.aload_n 0, 1) := by decide +kernel
theorem dX8_heat_24 : decode cX8_heat 24 = .ok (.getfield 16, 3) := by decide +kernel
theorem dX8_heat_27 : decode cX8_heat 27 = .ok (.iload_n 1, 1) := by decide +kernel
theorem dX8_heat_28 : decode cX8_heat 28 = .ok (.putfield 106, 3) := by decide +kernel
theorem dX8_heat_31 : decode cX8_heat 31 = .ok (.iload_n 2, 1) := by decide +kernel
theorem dX8_heat_32 : decode cX8_heat 32 = .ok (.ireturn, 1) := by decide +kernel
theorem dX8_van_0 : decode cX8_van 0 = .ok (.iload_n 1, 1) := by decide +kernel
theorem dX8_van_1 : decode cX8_van 1 = .ok (.invokestatic 109, 3) := by decide +kernel
theorem dX8_van_4 : decode cX8_van 4 = .ok (.ifCond .ne 10, 3) := by decide +kernel
theorem dX8_van_7 : decode cX8_van 7 = .ok (.aload_n 0, 1) := by decide +kernel
theorem dX8_van_8 : decode cX8_van 8 = .ok (.ldc 67, 2) := by decide +kernel
theorem dX8_van_10 : decode cX8_van 10 = .ok (.invokevirtual 68, 3) := by decide +kernel
theorem dX8_van_13 : decode cX8_van 13 = .ok (.ireturn, 1) := by decide +kernel
theorem dX8_van_14 : decode cX8_van 14 = .ok (.aload_n 0, 1) := by decide +kernel
theorem dX8_van_15 : decode cX8_van 15 = .ok (.getfield 33, 3) := by decide +kernel
theorem dX8_van_18 : decode cX8_van 18 = .ok (.iconst 4, 1) := by decide +kernel
theorem dX8_van_19 : decode cX8_van 19 = .ok (.if_icmp .lt 10, 3) := by decide +kernel
theorem dX8_van_22 : decode cX8_van 22 = .ok (.aload_n 0, 1) := by decide +kernel
theorem dX8_van_23 : decode cX8_van 23 = .ok (.ldc 76, 2) := by decide +kernel
theorem dX8_van_25 : decode cX8_van 25 = .ok (.invokevirtual 68, 3) := by decide +kernel
theorem dX8_van_28 : decode cX8_van 28 = .ok (.ireturn, 1) := by decide +kernel
theorem dX8_van_29 : decode cX8_van 29 = .ok (.aload_n 0, 1) := by decide +kernel
theorem dX8_van_30 : decode cX8_van 30 = .ok (.getfield 29, 3) := by decide +kernel
theorem dX8_van_33 : decode cX8_van 33 = .ok (.aload_n 0, 1) := by decide +kernel
theorem dX8_van_34 : decode cX8_van 34 = .ok (.getfield 33, 3) := by decide +kernel
theorem dX8_van_37 : decode cX8_van 37 = .ok (.iload_n 1, 1) := by decide +kernel
theorem dX8_van_38 : decode cX8_van 38 = .ok (.invokestatic 112, 3) := by decide +kernel
theorem dX8_van_41 : decode cX8_van 41 = .ok (.aastore, 1) := by decide +kernel
theorem dX8_van_42 : decode cX8_van 42 = .ok (.aload_n 0, 1) := by decide +kernel
theorem dX8_van_43 : decode cX8_van 43 = .ok (.dup, 1) := by decide +kernel
theorem dX8_van_44 : decode cX8_van 44 = .ok (.getfield 33, 3) := by decide +kernel
theorem dX8_van_47 : decode cX8_van 47 = .ok (.iconst 1, 1) := by decide +kernel
theorem dX8_van_48 : decode cX8_van 48 = .ok (.iadd, 1) := by decide +kernel
theorem dX8_van_49 : decode cX8_van 49 = .ok (.putfield 33, 3) := by decide +kernel
theorem dX8_van_52 : decode cX8_van 52 = .ok (.aload_n 0, 1) := by decide +kernel
theorem dX8_van_53 : decode cX8_van 53 = .ok (.getfield 33, 3) := by decide +kernel
theorem dX8_van_56 : decode cX8_van 56 = .ok (.iconst 1, 1) := by decide +kernel
theorem dX8_van_57 : decode cX8_van 57 = .ok (.isub, 1) := by decide +kernel
theorem dX8_van_58 : decode cX8_van 58 = .ok (.ireturn, 1) := by decide +kernel
theorem dX8_as_0 : decode cX8_as 0 = .ok (.aload_n 0, 1) := by decide +kernel
theorem dX8_as_1 : decode cX8_as 1 = .ok (.iload_n 1, 1) := by decide +kernel
theorem dX8_as_2 : decode cX8_as 2 = .ok (.invokevirtual 116, 3) := by decide +kernel
theorem dX8_as_5 : decode cX8_as 5 = .ok (.astore_n 3, 1) := by decide +kernel
theorem dX8_as_6 : decode cX8_as 6 = .ok (.aload_n 3, 1) := by decide +kernel
theorem dX8_as_7 : decode cX8_as 7 = .ok (.ifnull 10, 3) := by decide +kernel
theorem dX8_as_10 : decode cX8_as 10 = .ok (.iload_n 2, 1) := by decide +kernel
theorem dX8_as_11 : decode cX8_as 11 = .ok (.invokestatic 109, 3) := by decide +kernel
theorem dX8_as_14 : decode cX8_as 14 = .ok (.ifCond .ne 10, 3) := by decide +kernel
theorem dX8_as_17 : decode cX8_as 17 = .ok (.aload_n 0, 1) := by decide +kernel
theorem dX8_as_18 : decode cX8_as 18 = .ok (.ldc 67, 2) := by decide +kernel
theorem dX8_as_20 : decode cX8_as 20 = .ok (.invokevirtual 68, 3) := by decide +kernel
theorem dX8_as_23 : decode cX8_as 23 = .ok (.ireturn, 1) := by decide +kernel
theorem dX8_as_24 : decode cX8_as 24 = .ok (.aload_n 3, 1) := by decide +kernel
theorem dX8_as_25 : decode cX8_as 25 = .ok (.iload_n 2, 1) := by decide +kernel
theorem dX8_as_26 : decode cX8_as 26 = .ok (.invokestatic 119, 3) := by decide +kernel
theorem dX8_as_29 : decode cX8_as 29 = .ok (.ifCond .ne 10, 3) := by decide +kernel
theorem dX8_as_32 : decode cX8_as 32 = .ok (.aload_n 0, 1) := by decide +kernel
theorem dX8_as_33 : decode cX8_as 33 = .ok (.ldc 123, 2) := by decide +kernel
theorem dX8_as_35 : decode cX8_as 35 = .ok (.invokevirtual 68, 3) := by decide +kernel
theorem dX8_as_38 : decode cX8_as 38 = .ok (.ireturn, 1) := by decide +kernel
theorem dX8_as_39 : decode cX8_as 39 = .ok (.aload_n 3, 1) := by decide +kernel
theorem dX8_as_40 : decode cX8_as 40 = .ok (.getfield 124, 3) := by decide +kernel
theorem dX8_as_43 : decode cX8_as 43 = .ok (.ireturn, 1) := by decide +kernel
theorem dX8_stock_0 : decode cX8_stock 0 = .ok (.aload_n 0, 1) := by decide +kernel
theorem dX8_stock_1 : decode cX8_stock 1 = .ok (.iload_n 1, 1) := by decide +kernel
theorem dX8_stock_2 : decode cX8_stock 2 = .ok (.invokevirtual 116, 3) := by decide +kernel
theorem dX8_stock_5 : decode cX8_stock 5 = .ok (.astore_n 3, 1) := by decide +kernel
theorem dX8_stock_6 : decode cX8_stock 6 = .ok (.aload_n 3, 1) := by decide +kernel
theorem dX8_stock_7 : decode cX8_stock 7 = .ok (.ifnull 13, 3) := by decide +kernel
theorem dX8_stock_10 : decode cX8_stock 10 = .ok (.iload_n 2, 1) := by decide +kernel
theorem dX8_stock_11 : decode cX8_stock 11 = .ok (.sipush 2000, 3) := by decide +kernel
theorem dX8_stock_14 : decode cX8_stock 14 = .ok (.invokestatic 85, 3) := by decide +kernel
theorem dX8_stock_17 : decode cX8_stock 17 = .ok (.ifCond .ne 10, 3) := by decide +kernel
theorem dX8_stock_20 : decode cX8_stock 20 = .ok (.aload_n 0, 1) := by decide +kernel
theorem dX8_stock_21 : decode cX8_stock 21 = .ok (.ldc 67, 2) := by decide +kernel
theorem dX8_stock_23 : decode cX8_stock 23 = .ok (.invokevirtual 68, 3) := by decide +kernel
theorem dX8_stock_26 : decode cX8_stock 26 = .ok (.ireturn, 1) := by decide +kernel
theorem dX8_stock_27 : decode cX8_stock 27 = .ok (.aload_n 3, 1) := by decide +kernel
theorem dX8_stock_28 : decode cX8_stock 28 = .ok (.getfield 124, 3) := by decide +kernel
theorem dX8_stock_31 : decode cX8_stock 31 = .ok (.istore 4, 2) := by decide +kernel
theorem dX8_stock_33 : decode cX8_stock 33 = .ok (.aload_n 3, 1) := by decide +kernel
theorem dX8_stock_34 : decode cX8_stock 34 = .ok (.iload_n 2, 1) := by decide +kernel
theorem dX8_stock_35 : decode cX8_stock 35 = .ok (.putfield 124, 3) := by decide +kernel
theorem dX8_stock_38 : decode cX8_stock 38 = .ok (.iload 4, 2) := by decide +kernel
theorem dX8_stock_40 : decode cX8_stock 40 = .ok (.ireturn, 1) := by decide +kernel
theorem dX8_licence_0 : decode cX8_licence 0 = .ok (.aload_n 0, 1) := by decide +kernel
theorem dX8_licence_1 : decode cX8_licence 1 = .ok (.iload_n 1, 1) := by decide +kernel
theorem dX8_licence_2 : decode cX8_licence 2 = .ok (.invokevirtual 116, 3) := by decide +kernel
theorem dX8_licence_5 : decode cX8_licence 5 = .ok (.astore_n 3, 1) := by decide +kernel
theorem dX8_licence_6 : decode cX8_licence 6 = .ok (.aload_n 3, 1) := by decide +kernel
theorem dX8_licence_7 : decode cX8_licence 7 = .ok (.ifnull 12, 3) := by decide +kernel
theorem dX8_licence_10 : decode cX8_licence 10 = .ok (.iload_n 2, 1) := by decide +kernel
theorem dX8_licence_11 : decode cX8_licence 11 = .ok (.bipush 63, 2) := by decide +kernel
theorem dX8_licence_13 : decode cX8_licence 13 = .ok (.invokestatic 85, 3) := by decide +kernel
theorem dX8_licence_16 : decode cX8_licence 16 = .ok (.ifCond .ne 10, 3) := by decide +kernel
theorem dX8_licence_19 : decode cX8_licence 19 = .ok (.aload_n 0, 1) := by decide +kernel
theorem dX8_licence_20 : decode cX8_licence 20 = .ok (.ldc 67, 2) := by decide +kernel
theorem dX8_licence_22 : decode cX8_licence 22 = .ok (.invokevirtual 68, 3) := by decide +kernel
theorem dX8_licence_25 : decode cX8_licence 25 = .ok (.ireturn, 1) := by decide +kernel
theorem dX8_licence_26 : decode cX8_licence 26 = .ok (.aload_n 3, 1) := by decide +kernel
theorem dX8_licence_27 : decode cX8_licence 27 = .ok (.getfield 127, 3) := by decide +kernel
theorem dX8_licence_30 : decode cX8_licence 30 = .ok (.istore 4, 2) := by decide +kernel
theorem dX8_licence_32 : decode cX8_licence 32 = .ok (.aload_n 3, 1) := by decide +kernel
theorem dX8_licence_33 : decode cX8_licence 33 = .ok (.iload_n 2, 1) := by decide +kernel
theorem dX8_licence_34 : decode cX8_licence 34 = .ok (.putfield 127, 3) := by decide +kernel
theorem dX8_licence_37 : decode cX8_licence 37 = .ok (.iload 4, 2) := by decide +kernel
theorem dX8_licence_39 : decode cX8_licence 39 = .ok (.ireturn, 1) := by decide +kernel
theorem dX8_law_0 : decode cX8_law 0 = .ok (.iload_n 1, 1) := by decide +kernel
theorem dX8_law_1 : decode cX8_law 1 = .ok (.invokestatic 97, 3) := by decide +kernel
theorem dX8_law_4 : decode cX8_law 4 = .ok (.ifCond .eq 19, 3) := by decide +kernel
theorem dX8_law_7 : decode cX8_law 7 = .ok (.iload_n 2, 1) := by decide +kernel
theorem dX8_law_8 : decode cX8_law 8 = .ok (.invokestatic 97, 3) := by decide +kernel
theorem dX8_law_11 : decode cX8_law 11 = .ok (.ifCond .eq 12, 3) := by decide +kernel
theorem dX8_law_14 : decode cX8_law 14 = .ok (.iload_n 3, 1) := by decide +kernel
theorem dX8_law_15 : decode cX8_law 15 = .ok (.bipush 60, 2) := by decide +kernel
theorem dX8_law_17 : decode cX8_law 17 = .ok (.invokestatic 85, 3) := by decide +kernel
theorem dX8_law_20 : decode cX8_law 20 = .ok (.ifCond .ne 10, 3) := by decide +kernel
theorem dX8_law_23 : decode cX8_law 23 = .ok (.aload_n 0, 1) := by decide +kernel
theorem dX8_law_24 : decode cX8_law 24 = .ok (.ldc 67, 2) := by decide +kernel
theorem dX8_law_26 : decode cX8_law 26 = .ok (.invokevirtual 68, 3) := by decide +kernel
theorem dX8_law_29 : decode cX8_law 29 = .ok (.ireturn, 1) := by decide +kernel
theorem dX8_law_30 : decode cX8_law 30 = .ok (.aload_n 0, 1) := by decide +kernel
theorem dX8_law_31 : decode cX8_law 31 = .ok (.getfield 23, 3) := by decide +kernel
theorem dX8_law_34 : decode cX8_law 34 = .ok (.iload_n 1, 1) := by decide +kernel
theorem dX8_law_35 : decode cX8_law 35 = .ok (.putfield 130, 3) := by decide +kernel
theorem dX8_law_38 : decode cX8_law 38 = .ok (.aload_n 0, 1) := by decide +kernel
theorem dX8_law_39 : decode cX8_law 39 = .ok (.getfield 23, 3) := by decide +kernel
theorem dX8_law_42 : decode cX8_law 42 = .ok (.iload_n 2, 1) := by decide +kernel
theorem dX8_law_43 : decode cX8_law 43 = .ok (.putfield 133, 3) := by decide +kernel
theorem dX8_law_46 : decode cX8_law 46 = .ok (.aload_n 0, 1) := by decide +kernel
theorem dX8_law_47 : decode cX8_law 47 = .ok (.getfield 23, 3) := by decide +kernel
theorem dX8_law_50 : decode cX8_law 50 = .ok (.iload_n 3, 1) := by decide +kernel
theorem dX8_law_51 : decode cX8_law 51 = .ok (.putfield 136, 3) := by decide +kernel
theorem dX8_law_54 : decode cX8_law 54 = .ok (.iconst 1, 1) := by decide +kernel
theorem dX8_law_55 : decode cX8_law 55 = .ok (.ireturn, 1) := by decide +kernel
theorem dX8_may_0 : decode cX8_may 0 = .ok (.aload_n 0, 1) := by decide +kernel
theorem dX8_may_1 : decode cX8_may 1 = .ok (.iload_n 1, 1) := by decide +kernel
theorem dX8_may_2 : decode cX8_may 2 = .ok (.invokevirtual 116, 3) := by decide +kernel
theorem dX8_may_5 : decode cX8_may 5 = .ok (.astore 4, 2) := by decide +kernel
theorem dX8_may_7 : decode cX8_may 7 = .ok (.aload 4, 2) := by decide +kernel
theorem dX8_may_9 : decode cX8_may 9 = .ok (.ifnull 21, 3) := by decide +kernel
theorem dX8_may_12 : decode cX8_may 12 = .ok (.aload_n 0, 1) := by decide +kernel
theorem dX8_may_13 : decode cX8_may 13 = .ok (.getfield 16, 3) := by decide +kernel
theorem dX8_may_16 : decode cX8_may 16 = .ok (.iload_n 2, 1) := by decide +kernel
theorem dX8_may_17 : decode cX8_may 17 = .ok (.invokevirtual 81, 3) := by decide +kernel
theorem dX8_may_20 : decode cX8_may 20 = .ok (.ifCond .eq 10, 3) := by decide +kernel
theorem dX8_may_23 : decode cX8_may 23 = .ok (.iload_n 3, 1) := by decide +kernel
theorem dX8_may_24 : decode cX8_may 24 = .ok (.invokestatic 97, 3) := by decide +kernel
theorem dX8_may_27 : decode cX8_may 27 = .ok (.ifCond .ne 10, 3) := by decide +kernel
theorem dX8_may_30 : decode cX8_may 30 = .ok (.aload_n 0, 1) := by decide +kernel
theorem dX8_may_31 : decode cX8_may 31 = .ok (.ldc 67, 2) := by decide +kernel
theorem dX8_may_33 : decode cX8_may 33 = .ok (.invokevirtual 68, 3) := by decide +kernel
theorem dX8_may_36 : decode cX8_may 36 = .ok (.ireturn, 1) := by decide +kernel
theorem dX8_may_37 : decode cX8_may 37 = .ok (.aload_n 0, 1) := by decide +kernel
theorem dX8_may_38 : decode cX8_may 38 = .ok (.aload 4, 2) := by decide +kernel
theorem dX8_may_40 : decode cX8_may 40 = .ok (.iload_n 2, 1) := by decide +kernel
theorem dX8_may_41 : decode cX8_may 41 = .ok (.iload_n 3, 1) := by decide +kernel
theorem dX8_may_42 : decode cX8_may 42 = .ok (.invokevirtual 139, 3) := by decide +kernel
theorem dX8_may_45 : decode cX8_may 45 = .ok (.ifCond .eq 7, 3) := by decide +kernel
theorem dX8_may_48 : decode cX8_may 48 = .ok (.iconst 1, 1) := by decide +kernel
theorem dX8_may_49 : decode cX8_may 49 = .ok (.goto 4, 3) := by decide +kernel
theorem dX8_may_52 : decode cX8_may 52 = .ok (.iconst 0, 1) := by decide +kernel
end
section
theorem dX8_may_53 : decode cX8_may 53 = .ok (.ireturn, 1) := by decide +kernel
theorem dX8_worth_0 : decode cX8_worth 0 = .ok (.aload_n 0, 1) := by decide +kernel
theorem dX8_worth_1 : decode cX8_worth 1 = .ok (.getfield 16, 3) := by decide +kernel
theorem dX8_worth_4 : decode cX8_worth 4 = .ok (.iload_n 1, 1) := by decide +kernel
theorem dX8_worth_5 : decode cX8_worth 5 = .ok (.invokevirtual 81, 3) := by decide +kernel
theorem dX8_worth_8 : decode cX8_worth 8 = .ok (.ifCond .eq 10, 3) := by decide +kernel
theorem dX8_worth_11 : decode cX8_worth 11 = .ok (.iload_n 2, 1) := by decide +kernel
theorem dX8_worth_12 : decode cX8_worth 12 = .ok (.invokestatic 97, 3) := by decide +kernel
theorem dX8_worth_15 : decode cX8_worth 15 = .ok (.ifCond .ne 10, 3) := by decide +kernel
theorem dX8_worth_18 : decode cX8_worth 18 = .ok (.aload_n 0, 1) := by decide +kernel
theorem dX8_worth_19 : decode cX8_worth 19 = .ok (.ldc 67, 2) := by decide +kernel
theorem dX8_worth_21 : decode cX8_worth 21 = .ok (.invokevirtual 68, 3) := by decide +kernel
theorem dX8_worth_24 : decode cX8_worth 24 = .ok (.ireturn, 1) := by decide +kernel
theorem dX8_worth_25 : decode cX8_worth 25 = .ok (.aload_n 0, 1) := by decide +kernel
theorem dX8_worth_26 : decode cX8_worth 26 = .ok (.getfield 16, 3) := by decide +kernel
theorem dX8_worth_29 : decode cX8_worth 29 = .ok (.iload_n 1, 1) := by decide +kernel
theorem dX8_worth_30 : decode cX8_worth 30 = .ok (.iload_n 2, 1) := by decide +kernel
theorem dX8_worth_31 : decode cX8_worth 31 = .ok (.invokevirtual 143, 3) := by decide +kernel
theorem dX8_worth_34 : decode cX8_worth 34 = .ok (.ireturn, 1) := by decide +kernel
theorem dX8_plan_0 : decode cX8_plan 0 = .ok (.aload_n 0, 1) := by decide +kernel
theorem dX8_plan_1 : decode cX8_plan 1 = .ok (.iload_n 1, 1) := by decide +kernel
theorem dX8_plan_2 : decode cX8_plan 2 = .ok (.iload_n 2, 1) := by decide +kernel
theorem dX8_plan_3 : decode cX8_plan 3 = .ok (.iload_n 3, 1) := by decide +kernel
theorem dX8_plan_4 : decode cX8_plan 4 = .ok (.invokevirtual 146, 3) := by decide +kernel
theorem dX8_plan_7 : decode cX8_plan 7 = .ok (.istore 4, 2) := by decide +kernel
theorem dX8_plan_9 : decode cX8_plan 9 = .ok (.iload 4, 2) := by decide +kernel
theorem dX8_plan_11 : decode cX8_plan 11 = .ok (.ifCond .eq 10, 3) := by decide +kernel
theorem dX8_plan_14 : decode cX8_plan 14 = .ok (.aload_n 0, 1) := by decide +kernel
theorem dX8_plan_15 : decode cX8_plan 15 = .ok (.iload 4, 2) := by decide +kernel
theorem dX8_plan_17 : decode cX8_plan 17 = .ok (.invokevirtual 68, 3) := by decide +kernel
theorem dX8_plan_20 : decode cX8_plan 20 = .ok (.ireturn, 1) := by decide +kernel
theorem dX8_plan_21 : decode cX8_plan 21 = .ok (.aload_n 0, 1) := by decide +kernel
theorem dX8_plan_22 : decode cX8_plan 22 = .ok (.getfield 44, 3) := by decide +kernel
theorem dX8_plan_25 : decode cX8_plan 25 = .ok (.getfield 150, 3) := by decide +kernel
theorem dX8_plan_28 : decode cX8_plan 28 = .ok (.ireturn, 1) := by decide +kernel
theorem dX8_stop_0 : decode cX8_stop 0 = .ok (.aload_n 0, 1) := by decide +kernel
theorem dX8_stop_1 : decode cX8_stop 1 = .ok (.iload_n 1, 1) := by decide +kernel
theorem dX8_stop_2 : decode cX8_stop 2 = .ok (.iload_n 2, 1) := by decide +kernel
theorem dX8_stop_3 : decode cX8_stop 3 = .ok (.iload_n 3, 1) := by decide +kernel
theorem dX8_stop_4 : decode cX8_stop 4 = .ok (.invokevirtual 146, 3) := by decide +kernel
theorem dX8_stop_7 : decode cX8_stop 7 = .ok (.istore 5, 2) := by decide +kernel
theorem dX8_stop_9 : decode cX8_stop 9 = .ok (.iload 5, 2) := by decide +kernel
theorem dX8_stop_11 : decode cX8_stop 11 = .ok (.ifCond .eq 10, 3) := by decide +kernel
theorem dX8_stop_14 : decode cX8_stop 14 = .ok (.aload_n 0, 1) := by decide +kernel
theorem dX8_stop_15 : decode cX8_stop 15 = .ok (.iload 5, 2) := by decide +kernel
theorem dX8_stop_17 : decode cX8_stop 17 = .ok (.invokevirtual 68, 3) := by decide +kernel
theorem dX8_stop_20 : decode cX8_stop 20 = .ok (.ireturn, 1) := by decide +kernel
theorem dX8_stop_21 : decode cX8_stop 21 = .ok (.aload_n 0, 1) := by decide +kernel
theorem dX8_stop_22 : decode cX8_stop 22 = .ok (.getfield 44, 3) := by decide +kernel
theorem dX8_stop_25 : decode cX8_stop 25 = .ok (.iload 4, 2) := by decide +kernel
theorem dX8_stop_27 : decode cX8_stop 27 = .ok (.invokevirtual 153, 3) := by decide +kernel
theorem dX8_stop_30 : decode cX8_stop 30 = .ok (.ifCond .ne 10, 3) := by decide +kernel
theorem dX8_stop_33 : decode cX8_stop 33 = .ok (.aload_n 0, 1) := by decide +kernel
theorem dX8_stop_34 : decode cX8_stop 34 = .ok (.ldc 154, 2) := by decide +kernel
theorem dX8_stop_36 : decode cX8_stop 36 = .ok (.invokevirtual 68, 3) := by decide +kernel
theorem dX8_stop_39 : decode cX8_stop 39 = .ok (.ireturn, 1) := by decide +kernel
theorem dX8_stop_40 : decode cX8_stop 40 = .ok (.bipush 100, 2) := by decide +kernel
theorem dX8_stop_42 : decode cX8_stop 42 = .ok (.aload_n 0, 1) := by decide +kernel
theorem dX8_stop_43 : decode cX8_stop 43 = .ok (.getfield 44, 3) := by decide +kernel
theorem dX8_stop_46 : decode cX8_stop 46 = .ok (.getfield 155, 3) := by decide +kernel
theorem dX8_stop_49 : decode cX8_stop 49 = .ok (.iload 4, 2) := by decide +kernel
theorem dX8_stop_51 : decode cX8_stop 51 = .ok (.iaload, 1) := by decide +kernel
theorem dX8_stop_52 : decode cX8_stop 52 = .ok (.imul, 1) := by decide +kernel
theorem dX8_stop_53 : decode cX8_stop 53 = .ok (.aload_n 0, 1) := by decide +kernel
theorem dX8_stop_54 : decode cX8_stop 54 = .ok (.getfield 44, 3) := by decide +kernel
theorem dX8_stop_57 : decode cX8_stop 57 = .ok (.getfield 158, 3) := by decide +kernel
theorem dX8_stop_60 : decode cX8_stop 60 = .ok (.iload 4, 2) := by decide +kernel
theorem dX8_stop_62 : decode cX8_stop 62 = .ok (.iaload, 1) := by decide +kernel
theorem dX8_stop_63 : decode cX8_stop 63 = .ok (.iadd, 1) := by decide +kernel
theorem dX8_stop_64 : decode cX8_stop 64 = .ok (.ireturn, 1) := by decide +kernel
theorem dX8_left_0 : decode cX8_left 0 = .ok (.aload_n 0, 1) := by decide +kernel
theorem dX8_left_1 : decode cX8_left 1 = .ok (.iload_n 1, 1) := by decide +kernel
theorem dX8_left_2 : decode cX8_left 2 = .ok (.iload_n 2, 1) := by decide +kernel
theorem dX8_left_3 : decode cX8_left 3 = .ok (.iload_n 3, 1) := by decide +kernel
theorem dX8_left_4 : decode cX8_left 4 = .ok (.invokevirtual 146, 3) := by decide +kernel
theorem dX8_left_7 : decode cX8_left 7 = .ok (.istore 4, 2) := by decide +kernel
theorem dX8_left_9 : decode cX8_left 9 = .ok (.iload 4, 2) := by decide +kernel
theorem dX8_left_11 : decode cX8_left 11 = .ok (.ifCond .eq 10, 3) := by decide +kernel
theorem dX8_left_14 : decode cX8_left 14 = .ok (.aload_n 0, 1) := by decide +kernel
theorem dX8_left_15 : decode cX8_left 15 = .ok (.iload 4, 2) := by decide +kernel
theorem dX8_left_17 : decode cX8_left 17 = .ok (.invokevirtual 68, 3) := by decide +kernel
theorem dX8_left_20 : decode cX8_left 20 = .ok (.ireturn, 1) := by decide +kernel
theorem dX8_left_21 : decode cX8_left 21 = .ok (.aload_n 0, 1) := by decide +kernel
theorem dX8_left_22 : decode cX8_left 22 = .ok (.getfield 44, 3) := by decide +kernel
theorem dX8_left_25 : decode cX8_left 25 = .ok (.getfield 161, 3) := by decide +kernel
theorem dX8_left_28 : decode cX8_left 28 = .ok (.ireturn, 1) := by decide +kernel
theorem dX8_stand_0 : decode cX8_stand 0 = .ok (.aload_n 0, 1) := by decide +kernel
theorem dX8_stand_1 : decode cX8_stand 1 = .ok (.iload_n 1, 1) := by decide +kernel
theorem dX8_stand_2 : decode cX8_stand 2 = .ok (.invokevirtual 116, 3) := by decide +kernel
theorem dX8_stand_5 : decode cX8_stand 5 = .ok (.ifnull 20, 3) := by decide +kernel
theorem dX8_stand_8 : decode cX8_stand 8 = .ok (.aload_n 0, 1) := by decide +kernel
theorem dX8_stand_9 : decode cX8_stand 9 = .ok (.iload_n 2, 1) := by decide +kernel
theorem dX8_stand_10 : decode cX8_stand 10 = .ok (.invokevirtual 162, 3) := by decide +kernel
theorem dX8_stand_13 : decode cX8_stand 13 = .ok (.ifCond .eq 12, 3) := by decide +kernel
theorem dX8_stand_16 : decode cX8_stand 16 = .ok (.iload_n 3, 1) := by decide +kernel
theorem dX8_stand_17 : decode cX8_stand 17 = .ok (.bipush 99, 2) := by decide +kernel
theorem dX8_stand_19 : decode cX8_stand 19 = .ok (.invokestatic 85, 3) := by decide +kernel
theorem dX8_stand_22 : decode cX8_stand 22 = .ok (.ifCond .ne 10, 3) := by decide +kernel
theorem dX8_stand_25 : decode cX8_stand 25 = .ok (.aload_n 0, 1) := by decide +kernel
theorem dX8_stand_26 : decode cX8_stand 26 = .ok (.ldc 67, 2) := by decide +kernel
theorem dX8_stand_28 : decode cX8_stand 28 = .ok (.invokevirtual 68, 3) := by decide +kernel
theorem dX8_stand_31 : decode cX8_stand 31 = .ok (.ireturn, 1) := by decide +kernel
theorem dX8_stand_32 : decode cX8_stand 32 = .ok (.iload_n 2, 1) := by decide +kernel
theorem dX8_stand_33 : decode cX8_stand 33 = .ok (.invokestatic 165, 3) := by decide +kernel
theorem dX8_stand_36 : decode cX8_stand 36 = .ok (.istore 4, 2) := by decide +kernel
theorem dX8_stand_38 : decode cX8_stand 38 = .ok (.aload_n 0, 1) := by decide +kernel
theorem dX8_stand_39 : decode cX8_stand 39 = .ok (.getfield 50, 3) := by decide +kernel
theorem dX8_stand_42 : decode cX8_stand 42 = .ok (.iload_n 1, 1) := by decide +kernel
theorem dX8_stand_43 : decode cX8_stand 43 = .ok (.aload_n 0, 1) := by decide +kernel
theorem dX8_stand_44 : decode cX8_stand 44 = .ok (.getfield 50, 3) := by decide +kernel
theorem dX8_stand_47 : decode cX8_stand 47 = .ok (.getfield 168, 3) := by decide +kernel
theorem dX8_stand_50 : decode cX8_stand 50 = .ok (.invokevirtual 171, 3) := by decide +kernel
theorem dX8_stand_53 : decode cX8_stand 53 = .ok (.istore 5, 2) := by decide +kernel
theorem dX8_stand_55 : decode cX8_stand 55 = .ok (.aload_n 0, 1) := by decide +kernel
theorem dX8_stand_56 : decode cX8_stand 56 = .ok (.getfield 50, 3) := by decide +kernel
theorem dX8_stand_59 : decode cX8_stand 59 = .ok (.iload 5, 2) := by decide +kernel
theorem dX8_stand_61 : decode cX8_stand 61 = .ok (.invokevirtual 174, 3) := by decide +kernel
theorem dX8_stand_64 : decode cX8_stand 64 = .ok (.ifCond .eq 25, 3) := by decide +kernel
theorem dX8_stand_67 : decode cX8_stand 67 = .ok (.iload 4, 2) := by decide +kernel
theorem dX8_stand_69 : decode cX8_stand 69 = .ok (.aload_n 0, 1) := by decide +kernel
theorem dX8_stand_70 : decode cX8_stand 70 = .ok (.getfield 50, 3) := by decide +kernel
theorem dX8_stand_73 : decode cX8_stand 73 = .ok (.getfield 175, 3) := by decide +kernel
theorem dX8_stand_76 : decode cX8_stand 76 = .ok (.iload 5, 2) := by decide +kernel
theorem dX8_stand_78 : decode cX8_stand 78 = .ok (.iaload, 1) := by decide +kernel
theorem dX8_stand_79 : decode cX8_stand 79 = .ok (.if_icmp .gt 10, 3) := by decide +kernel
theorem dX8_stand_82 : decode cX8_stand 82 = .ok (.aload_n 0, 1) := by decide +kernel
theorem dX8_stand_83 : decode cX8_stand 83 = .ok (.ldc 176, 2) := by decide +kernel
theorem dX8_stand_85 : decode cX8_stand 85 = .ok (.invokevirtual 68, 3) := by decide +kernel
theorem dX8_stand_88 : decode cX8_stand 88 = .ok (.ireturn, 1) := by decide +kernel
theorem dX8_stand_89 : decode cX8_stand 89 = .ok (.aload_n 0, 1) := by decide +kernel
theorem dX8_stand_90 : decode cX8_stand 90 = .ok (.getfield 50, 3) := by decide +kernel
theorem dX8_stand_93 : decode cX8_stand 93 = .ok (.invokevirtual 177, 3) := by decide +kernel
theorem dX8_stand_96 : decode cX8_stand 96 = .ok (.ifCond .eq 10, 3) := by decide +kernel
theorem dX8_stand_99 : decode cX8_stand 99 = .ok (.aload_n 0, 1) := by decide +kernel
theorem dX8_stand_100 : decode cX8_stand 100 = .ok (.ldc 76, 2) := by decide +kernel
theorem dX8_stand_102 : decode cX8_stand 102 = .ok (.invokevirtual 68, 3) := by decide +kernel
theorem dX8_stand_105 : decode cX8_stand 105 = .ok (.ireturn, 1) := by decide +kernel
theorem dX8_stand_106 : decode cX8_stand 106 = .ok (.aload_n 0, 1) := by decide +kernel
theorem dX8_stand_107 : decode cX8_stand 107 = .ok (.getfield 50, 3) := by decide +kernel
theorem dX8_stand_110 : decode cX8_stand 110 = .ok (.iload_n 1, 1) := by decide +kernel
theorem dX8_stand_111 : decode cX8_stand 111 = .ok (.iload_n 2, 1) := by decide +kernel
theorem dX8_stand_112 : decode cX8_stand 112 = .ok (.invokestatic 178, 3) := by decide +kernel
theorem dX8_stand_115 : decode cX8_stand 115 = .ok (.iload 4, 2) := by decide +kernel
theorem dX8_stand_117 : decode cX8_stand 117 = .ok (.iload_n 3, 1) := by decide +kernel
theorem dX8_stand_118 : decode cX8_stand 118 = .ok (.invokevirtual 181, 3) := by decide +kernel
theorem dX8_stand_121 : decode cX8_stand 121 = .ok (.ireturn, 1) := by decide +kernel
theorem dX8_wrong_0 : decode cX8_wrong 0 = .ok (.aload_n 0, 1) := by decide +kernel
theorem dX8_wrong_1 : decode cX8_wrong 1 = .ok (.getfield 50, 3) := by decide +kernel
theorem dX8_wrong_4 : decode cX8_wrong 4 = .ok (.iload_n 1, 1) := by decide +kernel
theorem dX8_wrong_5 : decode cX8_wrong 5 = .ok (.invokevirtual 174, 3) := by decide +kernel
theorem dX8_wrong_8 : decode cX8_wrong 8 = .ok (.ifCond .ne 10, 3) := by decide +kernel
theorem dX8_wrong_11 : decode cX8_wrong 11 = .ok (.aload_n 0, 1) := by decide +kernel
theorem dX8_wrong_12 : decode cX8_wrong 12 = .ok (.ldc 67, 2) := by decide +kernel
theorem dX8_wrong_14 : decode cX8_wrong 14 = .ok (.invokevirtual 68, 3) := by decide +kernel
theorem dX8_wrong_17 : decode cX8_wrong 17 = .ok (.ireturn, 1) := by decide +kernel
theorem dX8_wrong_18 : decode cX8_wrong 18 = .ok (.aload_n 0, 1) := by decide +kernel
theorem dX8_wrong_19 : decode cX8_wrong 19 = .ok (.iload_n 1, 1) := by decide +kernel
theorem dX8_wrong_20 : decode cX8_wrong 20 = .ok (.invokevirtual 184, 3) := by decide +kernel
theorem dX8_wrong_23 : decode cX8_wrong 23 = .ok (.ireturn, 1) := by decide +kernel
theorem dX8_clear_0 : decode cX8_clear 0 = .ok (.iconst 0, 1) := by decide +kernel
theorem dX8_clear_1 : decode cX8_clear 1 = .ok (.istore_n 1, 1) := by decide +kernel
theorem dX8_clear_2 : decode cX8_clear 2 = .ok (.iconst 0, 1) := by decide +kernel
theorem dX8_clear_3 : decode cX8_clear 3 = .ok (.istore_n 2, 1) := by decide +kernel
theorem dX8_clear_4 : decode cX8_clear 4 = .ok (.iload_n 2, 1) := by decide +kernel
theorem dX8_clear_5 : decode cX8_clear 5 = .ok (.aload_n 0, 1) := by decide +kernel
theorem dX8_clear_6 : decode cX8_clear 6 = .ok (.getfield 50, 3) := by decide +kernel
theorem dX8_clear_9 : decode cX8_clear 9 = .ok (.getfield 168, 3) := by decide +kernel
theorem dX8_clear_12 : decode cX8_clear 12 = .ok (.if_icmp .ge 20, 3) := by decide +kernel
theorem dX8_clear_15 : decode cX8_clear 15 = .ok (.aload_n 0, 1) := by decide +kernel
theorem dX8_clear_16 : decode cX8_clear 16 = .ok (.iload_n 2, 1) := by decide +kernel
theorem dX8_clear_17 : decode cX8_clear 17 = .ok (.invokevirtual 184, 3) := by decide +kernel
theorem dX8_clear_20 : decode cX8_clear 20 = .ok (.ifCond .eq 6, 3) := by decide +kernel
theorem dX8_clear_23 : decode cX8_clear 23 = .ok (.iinc 1 1, 3) := by decide +kernel
theorem dX8_clear_26 : decode cX8_clear 26 = .ok (.iinc 2 1, 3) := by decide +kernel
theorem dX8_clear_29 : decode cX8_clear 29 = .ok (.goto (-25), 3) := by decide +kernel
theorem dX8_clear_32 : decode cX8_clear 32 = .ok (.aload_n 0, 1) := by decide +kernel
theorem dX8_clear_33 : decode cX8_clear 33 = .ok (.getfield 50, 3) := by decide +kernel
theorem dX8_clear_36 : decode cX8_clear 36 = .ok (.iconst 0, 1) := by decide +kernel
theorem dX8_clear_37 : decode cX8_clear 37 = .ok (.putfield 168, 3) := by decide +kernel
theorem dX8_clear_40 : decode cX8_clear 40 = .ok (.iload_n 1, 1) := by decide +kernel
theorem dX8_clear_41 : decode cX8_clear 41 = .ok (.ireturn, 1) := by decide +kernel
theorem dX8_holder_0 : decode cX8_holder 0 = .ok (.aload_n 0, 1) := by decide +kernel
theorem dX8_holder_1 : decode cX8_holder 1 = .ok (.getfield 16, 3) := by decide +kernel
theorem dX8_holder_4 : decode cX8_holder 4 = .ok (.iload_n 1, 1) := by decide +kernel
theorem dX8_holder_5 : decode cX8_holder 5 = .ok (.invokevirtual 81, 3) := by decide +kernel
theorem dX8_holder_8 : decode cX8_holder 8 = .ok (.ifCond .ne 10, 3) := by decide +kernel
theorem dX8_holder_11 : decode cX8_holder 11 = .ok (.aload_n 0, 1) := by decide +kernel
theorem dX8_holder_12 : decode cX8_holder 12 = .ok (.ldc 67, 2) := by decide +kernel
theorem dX8_holder_14 : decode cX8_holder 14 = .ok (.invokevirtual 68, 3) := by decide +kernel
theorem dX8_holder_17 : decode cX8_holder 17 = .ok (.ireturn, 1) := by decide +kernel
theorem dX8_holder_18 : decode cX8_holder 18 = .ok (.aload_n 0, 1) := by decide +kernel
theorem dX8_holder_19 : decode cX8_holder 19 = .ok (.iload_n 1, 1) := by decide +kernel
theorem dX8_holder_20 : decode cX8_holder 20 = .ok (.invokevirtual 187, 3) := by decide +kernel
theorem dX8_holder_23 : decode cX8_holder 23 = .ok (.istore_n 2, 1) := by decide +kernel
theorem dX8_holder_24 : decode cX8_holder 24 = .ok (.iload_n 2, 1) := by decide +kernel
theorem dX8_holder_25 : decode cX8_holder 25 = .ok (.iconst (-1), 1) := by decide +kernel
theorem dX8_holder_26 : decode cX8_holder 26 = .ok (.if_icmp .ne 12, 3) := by decide +kernel
theorem dX8_holder_29 : decode cX8_holder 29 = .ok (.aload_n 0, 1) := by decide +kernel
theorem dX8_holder_30 : decode cX8_holder 30 = .ok (.ldc 154, 2) := by decide +kernel
theorem dX8_holder_32 : decode cX8_holder 32 = .ok (.invokevirtual 68, 3) := by decide +kernel
theorem dX8_holder_35 : decode cX8_holder 35 = .ok (.goto 4, 3) := by decide +kernel
theorem dX8_holder_38 : decode cX8_holder 38 = .ok (.iload_n 2, 1) := by decide +kernel
theorem dX8_holder_39 : decode cX8_holder 39 = .ok (.ireturn, 1) := by decide +kernel
theorem dX8_gets_0 : decode cX8_gets 0 = .ok (.aload_n 0, 1) := by decide +kernel
theorem dX8_gets_1 : decode cX8_gets 1 = .ok (.iload_n 1, 1) := by decide +kernel
theorem dX8_gets_2 : decode cX8_gets 2 = .ok (.invokevirtual 116, 3) := by decide +kernel
theorem dX8_gets_5 : decode cX8_gets 5 = .ok (.astore 5, 2) := by decide +kernel
theorem dX8_gets_7 : decode cX8_gets 7 = .ok (.aload_n 0, 1) := by decide +kernel
theorem dX8_gets_8 : decode cX8_gets 8 = .ok (.iload_n 2, 1) := by decide +kernel
theorem dX8_gets_9 : decode cX8_gets 9 = .ok (.invokevirtual 116, 3) := by decide +kernel
theorem dX8_gets_12 : decode cX8_gets 12 = .ok (.astore 6, 2) := by decide +kernel
theorem dX8_gets_14 : decode cX8_gets 14 = .ok (.aload 5, 2) := by decide +kernel
theorem dX8_gets_16 : decode cX8_gets 16 = .ok (.ifnull 29, 3) := by decide +kernel
theorem dX8_gets_19 : decode cX8_gets 19 = .ok (.aload 6, 2) := by decide +kernel
theorem dX8_gets_21 : decode cX8_gets 21 = .ok (.ifnull 24, 3) := by decide +kernel
theorem dX8_gets_24 : decode cX8_gets 24 = .ok (.iload_n 1, 1) := by decide +kernel
theorem dX8_gets_25 : decode cX8_gets 25 = .ok (.iload_n 2, 1) := by decide +kernel
theorem dX8_gets_26 : decode cX8_gets 26 = .ok (.if_icmp .eq 19, 3) := by decide +kernel
theorem dX8_gets_29 : decode cX8_gets 29 = .ok (.aload_n 0, 1) := by decide +kernel
theorem dX8_gets_30 : decode cX8_gets 30 = .ok (.iload_n 3, 1) := by decide +kernel
theorem dX8_gets_31 : decode cX8_gets 31 = .ok (.invokevirtual 190, 3) := by decide +kernel
theorem dX8_gets_34 : decode cX8_gets 34 = .ok (.ifCond .eq 11, 3) := by decide +kernel
theorem dX8_gets_37 : decode cX8_gets 37 = .ok (.iload 4, 2) := by decide +kernel
theorem dX8_gets_39 : decode cX8_gets 39 = .ok (.invokestatic 97, 3) := by decide +kernel
theorem dX8_gets_42 : decode cX8_gets 42 = .ok (.ifCond .ne 10, 3) := by decide +kernel
theorem dX8_gets_45 : decode cX8_gets 45 = .ok (.aload_n 0, 1) := by decide +kernel
theorem dX8_gets_46 : decode cX8_gets 46 = .ok (.ldc 67, 2) := by decide +kernel
theorem dX8_gets_48 : decode cX8_gets 48 = .ok (.invokevirtual 68, 3) := by decide +kernel
theorem dX8_gets_51 : decode cX8_gets 51 = .ok (.ireturn, 1) := by decide +kernel
theorem dX8_gets_52 : decode cX8_gets 52 = .ok (.iload_n 3, 1) := by decide +kernel
theorem dX8_gets_53 : decode cX8_gets 53 = .ok (.bipush 10, 2) := by decide +kernel
theorem dX8_gets_55 : decode cX8_gets 55 = .ok (.idiv, 1) := by decide +kernel
theorem dX8_gets_56 : decode cX8_gets 56 = .ok (.istore 7, 2) := by decide +kernel
theorem dX8_gets_58 : decode cX8_gets 58 = .ok (.iload_n 3, 1) := by decide +kernel
theorem dX8_gets_59 : decode cX8_gets 59 = .ok (.bipush 10, 2) := by decide +kernel
theorem dX8_gets_61 : decode cX8_gets 61 = .ok (.irem, 1) := by decide +kernel
theorem dX8_gets_62 : decode cX8_gets 62 = .ok (.istore 8, 2) := by decide +kernel
theorem dX8_gets_64 : decode cX8_gets 64 = .ok (.aload_n 0, 1) := by decide +kernel
theorem dX8_gets_65 : decode cX8_gets 65 = .ok (.aload 5, 2) := by decide +kernel
theorem dX8_gets_67 : decode cX8_gets 67 = .ok (.iload 7, 2) := by decide +kernel
theorem dX8_gets_69 : decode cX8_gets 69 = .ok (.iload 4, 2) := by decide +kernel
theorem dX8_gets_71 : decode cX8_gets 71 = .ok (.invokevirtual 139, 3) := by decide +kernel
theorem dX8_gets_74 : decode cX8_gets 74 = .ok (.ifCond .eq 16, 3) := by decide +kernel
theorem dX8_gets_77 : decode cX8_gets 77 = .ok (.aload_n 0, 1) := by decide +kernel
theorem dX8_gets_78 : decode cX8_gets 78 = .ok (.aload 6, 2) := by decide +kernel
theorem dX8_gets_80 : decode cX8_gets 80 = .ok (.iload 8, 2) := by decide +kernel
theorem dX8_gets_82 : decode cX8_gets 82 = .ok (.iload 4, 2) := by decide +kernel
theorem dX8_gets_84 : decode cX8_gets 84 = .ok (.invokevirtual 139, 3) := by decide +kernel
theorem dX8_gets_87 : decode cX8_gets 87 = .ok (.ifCond .ne 10, 3) := by decide +kernel
theorem dX8_gets_90 : decode cX8_gets 90 = .ok (.aload_n 0, 1) := by decide +kernel
theorem dX8_gets_91 : decode cX8_gets 91 = .ok (.ldc 176, 2) := by decide +kernel
theorem dX8_gets_93 : decode cX8_gets 93 = .ok (.invokevirtual 68, 3) := by decide +kernel
theorem dX8_gets_96 : decode cX8_gets 96 = .ok (.ireturn, 1) := by decide +kernel
theorem dX8_gets_97 : decode cX8_gets 97 = .ok (.aload_n 0, 1) := by decide +kernel
theorem dX8_gets_98 : decode cX8_gets 98 = .ok (.iload_n 1, 1) := by decide +kernel
theorem dX8_gets_99 : decode cX8_gets 99 = .ok (.iload 7, 2) := by decide +kernel
theorem dX8_gets_101 : decode cX8_gets 101 = .ok (.iload_n 2, 1) := by decide +kernel
theorem dX8_gets_102 : decode cX8_gets 102 = .ok (.iload 8, 2) := by decide +kernel
theorem dX8_gets_104 : decode cX8_gets 104 = .ok (.iload 4, 2) := by decide +kernel
theorem dX8_gets_106 : decode cX8_gets 106 = .ok (.invokevirtual 193, 3) := by decide +kernel
theorem dX8_gets_109 : decode cX8_gets 109 = .ok (.ireturn, 1) := by decide +kernel
theorem dX8_balance_0 : decode cX8_balance 0 = .ok (.aload_n 0, 1) := by decide +kernel
theorem dX8_balance_1 : decode cX8_balance 1 = .ok (.iload_n 1, 1) := by decide +kernel
theorem dX8_balance_2 : decode cX8_balance 2 = .ok (.iload_n 2, 1) := by decide +kernel
theorem dX8_balance_3 : decode cX8_balance 3 = .ok (.invokevirtual 197, 3) := by decide +kernel
theorem dX8_balance_6 : decode cX8_balance 6 = .ok (.ifCond .eq 15, 3) := by decide +kernel
theorem dX8_balance_9 : decode cX8_balance 9 = .ok (.iload_n 3, 1) := by decide +kernel
theorem dX8_balance_10 : decode cX8_balance 10 = .ok (.invokestatic 97, 3) := by decide +kernel
theorem dX8_balance_13 : decode cX8_balance 13 = .ok (.ifCond .eq 8, 3) := by decide +kernel
theorem dX8_balance_16 : decode cX8_balance 16 = .ok (.iload 4, 2) := by decide +kernel
theorem dX8_balance_18 : decode cX8_balance 18 = .ok (.ifCond .ge 10, 3) := by decide +kernel
theorem dX8_balance_21 : decode cX8_balance 21 = .ok (.aload_n 0, 1) := by decide +kernel
theorem dX8_balance_22 : decode cX8_balance 22 = .ok (.ldc 67, 2) := by decide +kernel
theorem dX8_balance_24 : decode cX8_balance 24 = .ok (.invokevirtual 68, 3) := by decide +kernel
theorem dX8_balance_27 : decode cX8_balance 27 = .ok (.ireturn, 1) := by decide +kernel
theorem dX8_balance_28 : decode cX8_balance 28 = .ok (.iconst 0, 1) := by decide +kernel
theorem dX8_balance_29 : decode cX8_balance 29 = .ok (.istore 5, 2) := by decide +kernel
theorem dX8_balance_31 : decode cX8_balance 31 = .ok (.iconst 0, 1) := by decide +kernel
theorem dX8_balance_32 : decode cX8_balance 32 = .ok (.istore 6, 2) := by decide +kernel
theorem dX8_balance_34 : decode cX8_balance 34 = .ok (.iload 6, 2) := by decide +kernel
theorem dX8_balance_36 : decode cX8_balance 36 = .ok (.aload_n 0, 1) := by decide +kernel
theorem dX8_balance_37 : decode cX8_balance 37 = .ok (.getfield 16, 3) := by decide +kernel
theorem dX8_balance_40 : decode cX8_balance 40 = .ok (.getfield 200, 3) := by decide +kernel
theorem dX8_balance_43 : decode cX8_balance 43 = .ok (.if_icmp .ge 63, 3) := by decide +kernel
theorem dX8_balance_46 : decode cX8_balance 46 = .ok (.iconst 0, 1) := by decide +kernel
theorem dX8_balance_47 : decode cX8_balance 47 = .ok (.istore 7, 2) := by decide +kernel
theorem dX8_balance_49 : decode cX8_balance 49 = .ok (.iload 7, 2) := by decide +kernel
theorem dX8_balance_51 : decode cX8_balance 51 = .ok (.aload_n 0, 1) := by decide +kernel
theorem dX8_balance_52 : decode cX8_balance 52 = .ok (.getfield 16, 3) := by decide +kernel
theorem dX8_balance_55 : decode cX8_balance 55 = .ok (.getfield 200, 3) := by decide +kernel
theorem dX8_balance_58 : decode cX8_balance 58 = .ok (.if_icmp .ge 42, 3) := by decide +kernel
theorem dX8_balance_61 : decode cX8_balance 61 = .ok (.aload_n 0, 1) := by decide +kernel
theorem dX8_balance_62 : decode cX8_balance 62 = .ok (.iload_n 1, 1) := by decide +kernel
theorem dX8_balance_63 : decode cX8_balance 63 = .ok (.iload 6, 2) := by decide +kernel
theorem dX8_balance_65 : decode cX8_balance 65 = .ok (.iload_n 2, 1) := by decide +kernel
theorem dX8_balance_66 : decode cX8_balance 66 = .ok (.iload 7, 2) := by decide +kernel
theorem dX8_balance_68 : decode cX8_balance 68 = .ok (.iload_n 3, 1) := by decide +kernel
theorem dX8_balance_69 : decode cX8_balance 69 = .ok (.invokevirtual 201, 3) := by decide +kernel
theorem dX8_balance_72 : decode cX8_balance 72 = .ok (.ifCond .eq 22, 3) := by decide +kernel
theorem dX8_balance_75 : decode cX8_balance 75 = .ok (.iload 5, 2) := by decide +kernel
theorem dX8_balance_77 : decode cX8_balance 77 = .ok (.iload 4, 2) := by decide +kernel
theorem dX8_balance_79 : decode cX8_balance 79 = .ok (.if_icmp .ne 12, 3) := by decide +kernel
theorem dX8_balance_82 : decode cX8_balance 82 = .ok (.bipush 10, 2) := by decide +kernel
theorem dX8_balance_84 : decode cX8_balance 84 = .ok (.iload 6, 2) := by decide +kernel
theorem dX8_balance_86 : decode cX8_balance 86 = .ok (.imul, 1) := by decide +kernel
theorem dX8_balance_87 : decode cX8_balance 87 = .ok (.iload 7, 2) := by decide +kernel
theorem dX8_balance_89 : decode cX8_balance 89 = .ok (.iadd, 1) := by decide +kernel
theorem dX8_balance_90 : decode cX8_balance 90 = .ok (.ireturn, 1) := by decide +kernel
theorem dX8_balance_91 : decode cX8_balance 91 = .ok (.iinc 5 1, 3) := by decide +kernel
theorem dX8_balance_94 : decode cX8_balance 94 = .ok (.iinc 7 1, 3) := by decide +kernel
theorem dX8_balance_97 : decode cX8_balance 97 = .ok (.goto (-48), 3) := by decide +kernel
theorem dX8_balance_100 : decode cX8_balance 100 = .ok (.iinc 6 1, 3) := by decide +kernel
theorem dX8_balance_103 : decode cX8_balance 103 = .ok (.goto (-69), 3) := by decide +kernel
theorem dX8_balance_106 : decode cX8_balance 106 = .ok (.aload_n 0, 1) := by decide +kernel
theorem dX8_balance_107 : decode cX8_balance 107 = .ok (.ldc 154, 2) := by decide +kernel
theorem dX8_balance_109 : decode cX8_balance 109 = .ok (.invokevirtual 68, 3) := by decide +kernel
theorem dX8_balance_112 : decode cX8_balance 112 = .ok (.ireturn, 1) := by decide +kernel
theorem dX8_together_0 : decode cX8_together 0 = .ok (.aload_n 0, 1) := by decide +kernel
theorem dX8_together_1 : decode cX8_together 1 = .ok (.iload_n 1, 1) := by decide +kernel
theorem dX8_together_2 : decode cX8_together 2 = .ok (.invokevirtual 116, 3) := by decide +kernel
theorem dX8_together_5 : decode cX8_together 5 = .ok (.astore 4, 2) := by decide +kernel
theorem dX8_together_7 : decode cX8_together 7 = .ok (.aload_n 0, 1) := by decide +kernel
theorem dX8_together_8 : decode cX8_together 8 = .ok (.iload_n 2, 1) := by decide +kernel
theorem dX8_together_9 : decode cX8_together 9 = .ok (.invokevirtual 116, 3) := by decide +kernel
theorem dX8_together_12 : decode cX8_together 12 = .ok (.astore 5, 2) := by decide +kernel
theorem dX8_together_14 : decode cX8_together 14 = .ok (.aload 4, 2) := by decide +kernel
theorem dX8_together_16 : decode cX8_together 16 = .ok (.ifnull 20, 3) := by decide +kernel
theorem dX8_together_19 : decode cX8_together 19 = .ok (.aload 5, 2) := by decide +kernel
theorem dX8_together_21 : decode cX8_together 21 = .ok (.ifnull 15, 3) := by decide +kernel
theorem dX8_together_24 : decode cX8_together 24 = .ok (.iload_n 1, 1) := by decide +kernel
theorem dX8_together_25 : decode cX8_together 25 = .ok (.iload_n 2, 1) := by decide +kernel
theorem dX8_together_26 : decode cX8_together 26 = .ok (.if_icmp .eq 10, 3) := by decide +kernel
theorem dX8_together_29 : decode cX8_together 29 = .ok (.iload_n 3, 1) := by decide +kernel
theorem dX8_together_30 : decode cX8_together 30 = .ok (.invokestatic 97, 3) := by decide +kernel
theorem dX8_together_33 : decode cX8_together 33 = .ok (.ifCond .ne 10, 3) := by decide +kernel
theorem dX8_together_36 : decode cX8_together 36 = .ok (.aload_n 0, 1) := by decide +kernel
theorem dX8_together_37 : decode cX8_together 37 = .ok (.ldc 67, 2) := by decide +kernel
theorem dX8_together_39 : decode cX8_together 39 = .ok (.invokevirtual 68, 3) := by decide +kernel
theorem dX8_together_42 : decode cX8_together 42 = .ok (.ireturn, 1) := by decide +kernel
theorem dX8_together_43 : decode cX8_together 43 = .ok (.iconst (-1), 1) := by decide +kernel
theorem dX8_together_44 : decode cX8_together 44 = .ok (.istore 6, 2) := by decide +kernel
theorem dX8_together_46 : decode cX8_together 46 = .ok (.ldc 154, 2) := by decide +kernel
theorem dX8_together_48 : decode cX8_together 48 = .ok (.istore 7, 2) := by decide +kernel
theorem dX8_together_50 : decode cX8_together 50 = .ok (.iconst 0, 1) := by decide +kernel
theorem dX8_together_51 : decode cX8_together 51 = .ok (.istore 8, 2) := by decide +kernel
theorem dX8_together_53 : decode cX8_together 53 = .ok (.iload 8, 2) := by decide +kernel
theorem dX8_together_55 : decode cX8_together 55 = .ok (.aload_n 0, 1) := by decide +kernel
theorem dX8_together_56 : decode cX8_together 56 = .ok (.getfield 16, 3) := by decide +kernel
theorem dX8_together_59 : decode cX8_together 59 = .ok (.getfield 200, 3) := by decide +kernel
theorem dX8_together_62 : decode cX8_together 62 = .ok (.if_icmp .ge 100, 3) := by decide +kernel
theorem dX8_together_65 : decode cX8_together 65 = .ok (.iconst 0, 1) := by decide +kernel
theorem dX8_together_66 : decode cX8_together 66 = .ok (.istore 9, 2) := by decide +kernel
theorem dX8_together_68 : decode cX8_together 68 = .ok (.iload 9, 2) := by decide +kernel
theorem dX8_together_70 : decode cX8_together 70 = .ok (.aload_n 0, 1) := by decide +kernel
theorem dX8_together_71 : decode cX8_together 71 = .ok (.getfield 16, 3) := by decide +kernel
theorem dX8_together_74 : decode cX8_together 74 = .ok (.getfield 200, 3) := by decide +kernel
theorem dX8_together_77 : decode cX8_together 77 = .ok (.if_icmp .ge 79, 3) := by decide +kernel
theorem dX8_together_80 : decode cX8_together 80 = .ok (.aload_n 0, 1) := by decide +kernel
theorem dX8_together_81 : decode cX8_together 81 = .ok (.aload 4, 2) := by decide +kernel
theorem dX8_together_83 : decode cX8_together 83 = .ok (.iload 8, 2) := by decide +kernel
theorem dX8_together_85 : decode cX8_together 85 = .ok (.iload_n 3, 1) := by decide +kernel
theorem dX8_together_86 : decode cX8_together 86 = .ok (.invokevirtual 139, 3) := by decide +kernel
theorem dX8_together_89 : decode cX8_together 89 = .ok (.ifCond .eq 61, 3) := by decide +kernel
theorem dX8_together_92 : decode cX8_together 92 = .ok (.aload_n 0, 1) := by decide +kernel
theorem dX8_together_93 : decode cX8_together 93 = .ok (.aload 5, 2) := by decide +kernel
theorem dX8_together_95 : decode cX8_together 95 = .ok (.iload 9, 2) := by decide +kernel
theorem dX8_together_97 : decode cX8_together 97 = .ok (.iload_n 3, 1) := by decide +kernel
theorem dX8_together_98 : decode cX8_together 98 = .ok (.invokevirtual 139, 3) := by decide +kernel
theorem dX8_together_101 : decode cX8_together 101 = .ok (.ifCond .eq 49, 3) := by decide +kernel
theorem dX8_together_104 : decode cX8_together 104 = .ok (.aload_n 0, 1) := by decide +kernel
theorem dX8_together_105 : decode cX8_together 105 = .ok (.iload_n 1, 1) := by decide +kernel
theorem dX8_together_106 : decode cX8_together 106 = .ok (.iload 8, 2) := by decide +kernel
theorem dX8_together_108 : decode cX8_together 108 = .ok (.iload_n 2, 1) := by decide +kernel
theorem dX8_together_109 : decode cX8_together 109 = .ok (.iload 9, 2) := by decide +kernel
theorem dX8_together_111 : decode cX8_together 111 = .ok (.iload_n 3, 1) := by decide +kernel
theorem dX8_together_112 : decode cX8_together 112 = .ok (.invokevirtual 193, 3) := by decide +kernel
theorem dX8_together_115 : decode cX8_together 115 = .ok (.aload_n 0, 1) := by decide +kernel
theorem dX8_together_116 : decode cX8_together 116 = .ok (.iload_n 2, 1) := by decide +kernel
theorem dX8_together_117 : decode cX8_together 117 = .ok (.iload 9, 2) := by decide +kernel
theorem dX8_together_119 : decode cX8_together 119 = .ok (.iload_n 1, 1) := by decide +kernel
theorem dX8_together_120 : decode cX8_together 120 = .ok (.iload 8, 2) := by decide +kernel
theorem dX8_together_122 : decode cX8_together 122 = .ok (.iload_n 3, 1) := by decide +kernel
theorem dX8_together_123 : decode cX8_together 123 = .ok (.invokevirtual 193, 3) := by decide +kernel
theorem dX8_together_126 : decode cX8_together 126 = .ok (.iadd, 1) := by decide +kernel
theorem dX8_together_127 : decode cX8_together 127 = .ok (.istore 10, 2) := by decide +kernel
theorem dX8_together_129 : decode cX8_together 129 = .ok (.iload 10, 2) := by decide +kernel
theorem dX8_together_131 : decode cX8_together 131 = .ok (.iload 6, 2) := by decide +kernel
theorem dX8_together_133 : decode cX8_together 133 = .ok (.if_icmp .le 17, 3) := by decide +kernel
theorem dX8_together_136 : decode cX8_together 136 = .ok (.iload 10, 2) := by decide +kernel
theorem dX8_together_138 : decode cX8_together 138 = .ok (.istore 6, 2) := by decide +kernel
theorem dX8_together_140 : decode cX8_together 140 = .ok (.bipush 10, 2) := by decide +kernel
theorem dX8_together_142 : decode cX8_together 142 = .ok (.iload 8, 2) := by decide +kernel
theorem dX8_together_144 : decode cX8_together 144 = .ok (.imul, 1) := by decide +kernel
theorem dX8_together_145 : decode cX8_together 145 = .ok (.iload 9, 2) := by decide +kernel
theorem dX8_together_147 : decode cX8_together 147 = .ok (.iadd, 1) := by decide +kernel
theorem dX8_together_148 : decode cX8_together 148 = .ok (.istore 7, 2) := by decide +kernel
theorem dX8_together_150 : decode cX8_together 150 = .ok (.iinc 9 1, 3) := by decide +kernel
theorem dX8_together_153 : decode cX8_together 153 = .ok (.goto (-85), 3) := by decide +kernel
theorem dX8_together_156 : decode cX8_together 156 = .ok (.iinc 8 1, 3) := by decide +kernel
theorem dX8_together_159 : decode cX8_together 159 = .ok (.goto (-106), 3) := by decide +kernel
theorem dX8_together_162 : decode cX8_together 162 = .ok (.iload 7, 2) := by decide +kernel
theorem dX8_together_164 : decode cX8_together 164 = .ok (.ldc 154, 2) := by decide +kernel
theorem dX8_together_166 : decode cX8_together 166 = .ok (.if_icmp .ne 12, 3) := by decide +kernel
theorem dX8_together_169 : decode cX8_together 169 = .ok (.aload_n 0, 1) := by decide +kernel
theorem dX8_together_170 : decode cX8_together 170 = .ok (.ldc 154, 2) := by decide +kernel
theorem dX8_together_172 : decode cX8_together 172 = .ok (.invokevirtual 68, 3) := by decide +kernel
theorem dX8_together_175 : decode cX8_together 175 = .ok (.goto 5, 3) := by decide +kernel
theorem dX8_together_178 : decode cX8_together 178 = .ok (.iload 7, 2) := by decide +kernel
theorem dX8_together_180 : decode cX8_together 180 = .ok (.ireturn, 1) := by decide +kernel
theorem dX8_credit_0 : decode cX8_credit 0 = .ok (.iload_n 1, 1) := by decide +kernel
theorem dX8_credit_1 : decode cX8_credit 1 = .ok (.bipush 60, 2) := by decide +kernel
theorem dX8_credit_3 : decode cX8_credit 3 = .ok (.invokestatic 85, 3) := by decide +kernel
theorem dX8_credit_6 : decode cX8_credit 6 = .ok (.ifCond .ne 10, 3) := by decide +kernel
theorem dX8_credit_9 : decode cX8_credit 9 = .ok (.aload_n 0, 1) := by decide +kernel
theorem dX8_credit_10 : decode cX8_credit 10 = .ok (.ldc 67, 2) := by decide +kernel
theorem dX8_credit_12 : decode cX8_credit 12 = .ok (.invokevirtual 68, 3) := by decide +kernel
theorem dX8_credit_15 : decode cX8_credit 15 = .ok (.ireturn, 1) := by decide +kernel
theorem dX8_credit_16 : decode cX8_credit 16 = .ok (.aload_n 0, 1) := by decide +kernel
theorem dX8_credit_17 : decode cX8_credit 17 = .ok (.getfield 57, 3) := by decide +kernel
theorem dX8_credit_20 : decode cX8_credit 20 = .ok (.getfield 205, 3) := by decide +kernel
theorem dX8_credit_23 : decode cX8_credit 23 = .ok (.istore_n 2, 1) := by decide +kernel
theorem dX8_credit_24 : decode cX8_credit 24 = .ok (.aload_n 0, 1) := by decide +kernel
theorem dX8_credit_25 : decode cX8_credit 25 = .ok (.getfield 57, 3) := by decide +kernel
theorem dX8_credit_28 : decode cX8_credit 28 = .ok (.iload_n 1, 1) := by decide +kernel
theorem dX8_credit_29 : decode cX8_credit 29 = .ok (.putfield 205, 3) := by decide +kernel
theorem dX8_credit_32 : decode cX8_credit 32 = .ok (.iload_n 2, 1) := by decide +kernel
theorem dX8_credit_33 : decode cX8_credit 33 = .ok (.ireturn, 1) := by decide +kernel
theorem dX8_bill_0 : decode cX8_bill 0 = .ok (.iload_n 1, 1) := by decide +kernel
theorem dX8_bill_1 : decode cX8_bill 1 = .ok (.iconst 1, 1) := by decide +kernel
theorem dX8_bill_2 : decode cX8_bill 2 = .ok (.if_icmp .lt 20, 3) := by decide +kernel
theorem dX8_bill_5 : decode cX8_bill 5 = .ok (.iload_n 1, 1) := by decide +kernel
theorem dX8_bill_6 : decode cX8_bill 6 = .ok (.sipush 10000, 3) := by decide +kernel
theorem dX8_bill_9 : decode cX8_bill 9 = .ok (.if_icmp .gt 13, 3) := by decide +kernel
theorem dX8_bill_12 : decode cX8_bill 12 = .ok (.iload_n 2, 1) := by decide +kernel
theorem dX8_bill_13 : decode cX8_bill 13 = .ok (.sipush 1000, 3) := by decide +kernel
theorem dX8_bill_16 : decode cX8_bill 16 = .ok (.invokestatic 85, 3) := by decide +kernel
theorem dX8_bill_19 : decode cX8_bill 19 = .ok (.ifCond .ne 10, 3) := by decide +kernel
theorem dX8_bill_22 : decode cX8_bill 22 = .ok (.aload_n 0, 1) := by decide +kernel
theorem dX8_bill_23 : decode cX8_bill 23 = .ok (.ldc 67, 2) := by decide +kernel
theorem dX8_bill_25 : decode cX8_bill 25 = .ok (.invokevirtual 68, 3) := by decide +kernel
theorem dX8_bill_28 : decode cX8_bill 28 = .ok (.ireturn, 1) := by decide +kernel
theorem dX8_bill_29 : decode cX8_bill 29 = .ok (.aload_n 0, 1) := by decide +kernel
theorem dX8_bill_30 : decode cX8_bill 30 = .ok (.getfield 57, 3) := by decide +kernel
theorem dX8_bill_33 : decode cX8_bill 33 = .ok (.invokevirtual 208, 3) := by decide +kernel
theorem dX8_bill_36 : decode cX8_bill 36 = .ok (.ifCond .eq 10, 3) := by decide +kernel
theorem dX8_bill_39 : decode cX8_bill 39 = .ok (.aload_n 0, 1) := by decide +kernel
theorem dX8_bill_40 : decode cX8_bill 40 = .ok (.ldc 76, 2) := by decide +kernel
theorem dX8_bill_42 : decode cX8_bill 42 = .ok (.invokevirtual 68, 3) := by decide +kernel
theorem dX8_bill_45 : decode cX8_bill 45 = .ok (.ireturn, 1) := by decide +kernel
theorem dX8_bill_46 : decode cX8_bill 46 = .ok (.aload_n 0, 1) := by decide +kernel
theorem dX8_bill_47 : decode cX8_bill 47 = .ok (.getfield 57, 3) := by decide +kernel
theorem dX8_bill_50 : decode cX8_bill 50 = .ok (.iload_n 1, 1) := by decide +kernel
theorem dX8_bill_51 : decode cX8_bill 51 = .ok (.iload_n 2, 1) := by decide +kernel
theorem dX8_bill_52 : decode cX8_bill 52 = .ok (.invokevirtual 209, 3) := by decide +kernel
theorem dX8_bill_55 : decode cX8_bill 55 = .ok (.ireturn, 1) := by decide +kernel
theorem dX8_pay_0 : decode cX8_pay 0 = .ok (.aload_n 0, 1) := by decide +kernel
theorem dX8_pay_1 : decode cX8_pay 1 = .ok (.getfield 57, 3) := by decide +kernel
theorem dX8_pay_4 : decode cX8_pay 4 = .ok (.iload_n 1, 1) := by decide +kernel
theorem dX8_pay_5 : decode cX8_pay 5 = .ok (.invokevirtual 211, 3) := by decide +kernel
theorem dX8_pay_8 : decode cX8_pay 8 = .ok (.ifCond .eq 8, 3) := by decide +kernel
theorem dX8_pay_11 : decode cX8_pay 11 = .ok (.iload_n 2, 1) := by decide +kernel
theorem dX8_pay_12 : decode cX8_pay 12 = .ok (.iconst 1, 1) := by decide +kernel
theorem dX8_pay_13 : decode cX8_pay 13 = .ok (.if_icmp .ge 10, 3) := by decide +kernel
theorem dX8_pay_16 : decode cX8_pay 16 = .ok (.aload_n 0, 1) := by decide +kernel
theorem dX8_pay_17 : decode cX8_pay 17 = .ok (.ldc 67, 2) := by decide +kernel
theorem dX8_pay_19 : decode cX8_pay 19 = .ok (.invokevirtual 68, 3) := by decide +kernel
theorem dX8_pay_22 : decode cX8_pay 22 = .ok (.ireturn, 1) := by decide +kernel
theorem dX8_pay_23 : decode cX8_pay 23 = .ok (.aload_n 0, 1) := by decide +kernel
theorem dX8_pay_24 : decode cX8_pay 24 = .ok (.getfield 57, 3) := by decide +kernel
theorem dX8_pay_27 : decode cX8_pay 27 = .ok (.getfield 212, 3) := by decide +kernel
theorem dX8_pay_30 : decode cX8_pay 30 = .ok (.iload_n 1, 1) := by decide +kernel
theorem dX8_pay_31 : decode cX8_pay 31 = .ok (.iaload, 1) := by decide +kernel
theorem dX8_pay_32 : decode cX8_pay 32 = .ok (.iload_n 2, 1) := by decide +kernel
theorem dX8_pay_33 : decode cX8_pay 33 = .ok (.if_icmp .ge 10, 3) := by decide +kernel
theorem dX8_pay_36 : decode cX8_pay 36 = .ok (.aload_n 0, 1) := by decide +kernel
theorem dX8_pay_37 : decode cX8_pay 37 = .ok (.ldc 176, 2) := by decide +kernel
theorem dX8_pay_39 : decode cX8_pay 39 = .ok (.invokevirtual 68, 3) := by decide +kernel
theorem dX8_pay_42 : decode cX8_pay 42 = .ok (.ireturn, 1) := by decide +kernel
theorem dX8_pay_43 : decode cX8_pay 43 = .ok (.aload_n 0, 1) := by decide +kernel
theorem dX8_pay_44 : decode cX8_pay 44 = .ok (.getfield 57, 3) := by decide +kernel
end
section
theorem dX8_pay_47 : decode cX8_pay 47 = .ok (.getfield 212, 3) := by decide +kernel
theorem dX8_pay_50 : decode cX8_pay 50 = .ok (.iload_n 1, 1) := by decide +kernel
theorem dX8_pay_51 : decode cX8_pay 51 = .ok (.dup2, 1) := by decide +kernel
theorem dX8_pay_52 : decode cX8_pay 52 = .ok (.iaload, 1) := by decide +kernel
theorem dX8_pay_53 : decode cX8_pay 53 = .ok (.iload_n 2, 1) := by decide +kernel
theorem dX8_pay_54 : decode cX8_pay 54 = .ok (.isub, 1) := by decide +kernel
theorem dX8_pay_55 : decode cX8_pay 55 = .ok (.iastore, 1) := by decide +kernel
theorem dX8_pay_56 : decode cX8_pay 56 = .ok (.aload_n 0, 1) := by decide +kernel
theorem dX8_pay_57 : decode cX8_pay 57 = .ok (.getfield 57, 3) := by decide +kernel
theorem dX8_pay_60 : decode cX8_pay 60 = .ok (.getfield 212, 3) := by decide +kernel
theorem dX8_pay_63 : decode cX8_pay 63 = .ok (.iload_n 1, 1) := by decide +kernel
theorem dX8_pay_64 : decode cX8_pay 64 = .ok (.iaload, 1) := by decide +kernel
theorem dX8_pay_65 : decode cX8_pay 65 = .ok (.ireturn, 1) := by decide +kernel
theorem dX8_owed_0 : decode cX8_owed 0 = .ok (.iload_n 1, 1) := by decide +kernel
theorem dX8_owed_1 : decode cX8_owed 1 = .ok (.iconst (-1), 1) := by decide +kernel
theorem dX8_owed_2 : decode cX8_owed 2 = .ok (.if_icmp .eq 14, 3) := by decide +kernel
theorem dX8_owed_5 : decode cX8_owed 5 = .ok (.aload_n 0, 1) := by decide +kernel
theorem dX8_owed_6 : decode cX8_owed 6 = .ok (.getfield 57, 3) := by decide +kernel
theorem dX8_owed_9 : decode cX8_owed 9 = .ok (.iload_n 1, 1) := by decide +kernel
theorem dX8_owed_10 : decode cX8_owed 10 = .ok (.invokevirtual 211, 3) := by decide +kernel
theorem dX8_owed_13 : decode cX8_owed 13 = .ok (.ifCond .eq 13, 3) := by decide +kernel
theorem dX8_owed_16 : decode cX8_owed 16 = .ok (.iload_n 2, 1) := by decide +kernel
theorem dX8_owed_17 : decode cX8_owed 17 = .ok (.sipush 2000, 3) := by decide +kernel
theorem dX8_owed_20 : decode cX8_owed 20 = .ok (.invokestatic 85, 3) := by decide +kernel
theorem dX8_owed_23 : decode cX8_owed 23 = .ok (.ifCond .ne 10, 3) := by decide +kernel
theorem dX8_owed_26 : decode cX8_owed 26 = .ok (.aload_n 0, 1) := by decide +kernel
theorem dX8_owed_27 : decode cX8_owed 27 = .ok (.ldc 67, 2) := by decide +kernel
theorem dX8_owed_29 : decode cX8_owed 29 = .ok (.invokevirtual 68, 3) := by decide +kernel
theorem dX8_owed_32 : decode cX8_owed 32 = .ok (.ireturn, 1) := by decide +kernel
theorem dX8_owed_33 : decode cX8_owed 33 = .ok (.iload_n 1, 1) := by decide +kernel
theorem dX8_owed_34 : decode cX8_owed 34 = .ok (.iconst (-1), 1) := by decide +kernel
theorem dX8_owed_35 : decode cX8_owed 35 = .ok (.if_icmp .ne 14, 3) := by decide +kernel
theorem dX8_owed_38 : decode cX8_owed 38 = .ok (.aload_n 0, 1) := by decide +kernel
theorem dX8_owed_39 : decode cX8_owed 39 = .ok (.getfield 57, 3) := by decide +kernel
theorem dX8_owed_42 : decode cX8_owed 42 = .ok (.iload_n 2, 1) := by decide +kernel
theorem dX8_owed_43 : decode cX8_owed 43 = .ok (.invokevirtual 215, 3) := by decide +kernel
theorem dX8_owed_46 : decode cX8_owed 46 = .ok (.goto 12, 3) := by decide +kernel
theorem dX8_owed_49 : decode cX8_owed 49 = .ok (.aload_n 0, 1) := by decide +kernel
theorem dX8_owed_50 : decode cX8_owed 50 = .ok (.getfield 57, 3) := by decide +kernel
theorem dX8_owed_53 : decode cX8_owed 53 = .ok (.iload_n 1, 1) := by decide +kernel
theorem dX8_owed_54 : decode cX8_owed 54 = .ok (.iload_n 2, 1) := by decide +kernel
theorem dX8_owed_55 : decode cX8_owed 55 = .ok (.invokevirtual 218, 3) := by decide +kernel
theorem dX8_owed_58 : decode cX8_owed 58 = .ok (.ireturn, 1) := by decide +kernel
theorem dX8_tell_0 : decode cX8_tell 0 = .ok (.aload_n 0, 1) := by decide +kernel
theorem dX8_tell_1 : decode cX8_tell 1 = .ok (.getfield 64, 3) := by decide +kernel
theorem dX8_tell_4 : decode cX8_tell 4 = .ok (.bipush 12, 2) := by decide +kernel
theorem dX8_tell_6 : decode cX8_tell 6 = .ok (.if_icmp .lt 10, 3) := by decide +kernel
theorem dX8_tell_9 : decode cX8_tell 9 = .ok (.aload_n 0, 1) := by decide +kernel
theorem dX8_tell_10 : decode cX8_tell 10 = .ok (.ldc 76, 2) := by decide +kernel
theorem dX8_tell_12 : decode cX8_tell 12 = .ok (.invokevirtual 68, 3) := by decide +kernel
theorem dX8_tell_15 : decode cX8_tell 15 = .ok (.ireturn, 1) := by decide +kernel
theorem dX8_tell_16 : decode cX8_tell 16 = .ok (.aload_n 0, 1) := by decide +kernel
theorem dX8_tell_17 : decode cX8_tell 17 = .ok (.getfield 61, 3) := by decide +kernel
theorem dX8_tell_20 : decode cX8_tell 20 = .ok (.aload_n 0, 1) := by decide +kernel
theorem dX8_tell_21 : decode cX8_tell 21 = .ok (.getfield 64, 3) := by decide +kernel
theorem dX8_tell_24 : decode cX8_tell 24 = .ok (.iload_n 1, 1) := by decide +kernel
theorem dX8_tell_25 : decode cX8_tell 25 = .ok (.iastore, 1) := by decide +kernel
theorem dX8_tell_26 : decode cX8_tell 26 = .ok (.aload_n 0, 1) := by decide +kernel
theorem dX8_tell_27 : decode cX8_tell 27 = .ok (.dup, 1) := by decide +kernel
theorem dX8_tell_28 : decode cX8_tell 28 = .ok (.getfield 64, 3) := by decide +kernel
theorem dX8_tell_31 : decode cX8_tell 31 = .ok (.iconst 1, 1) := by decide +kernel
theorem dX8_tell_32 : decode cX8_tell 32 = .ok (.iadd, 1) := by decide +kernel
theorem dX8_tell_33 : decode cX8_tell 33 = .ok (.putfield 64, 3) := by decide +kernel
theorem dX8_tell_36 : decode cX8_tell 36 = .ok (.aload_n 0, 1) := by decide +kernel
theorem dX8_tell_37 : decode cX8_tell 37 = .ok (.getfield 64, 3) := by decide +kernel
theorem dX8_tell_40 : decode cX8_tell 40 = .ok (.ireturn, 1) := by decide +kernel
theorem dX8_check_0 : decode cX8_check 0 = .ok (.aload_n 0, 1) := by decide +kernel
theorem dX8_check_1 : decode cX8_check 1 = .ok (.getfield 64, 3) := by decide +kernel
theorem dX8_check_4 : decode cX8_check 4 = .ok (.istore_n 2, 1) := by decide +kernel
theorem dX8_check_5 : decode cX8_check 5 = .ok (.iload_n 2, 1) := by decide +kernel
theorem dX8_check_6 : decode cX8_check 6 = .ok (.ifCond .ne 10, 3) := by decide +kernel
theorem dX8_check_9 : decode cX8_check 9 = .ok (.aload_n 0, 1) := by decide +kernel
theorem dX8_check_10 : decode cX8_check 10 = .ok (.ldc 154, 2) := by decide +kernel
theorem dX8_check_12 : decode cX8_check 12 = .ok (.invokevirtual 68, 3) := by decide +kernel
theorem dX8_check_15 : decode cX8_check 15 = .ok (.ireturn, 1) := by decide +kernel
theorem dX8_check_16 : decode cX8_check 16 = .ok (.aload_n 0, 1) := by decide +kernel
theorem dX8_check_17 : decode cX8_check 17 = .ok (.iconst 0, 1) := by decide +kernel
theorem dX8_check_18 : decode cX8_check 18 = .ok (.putfield 64, 3) := by decide +kernel
theorem dX8_check_21 : decode cX8_check 21 = .ok (.aload_n 0, 1) := by decide +kernel
theorem dX8_check_22 : decode cX8_check 22 = .ok (.iload_n 1, 1) := by decide +kernel
theorem dX8_check_23 : decode cX8_check 23 = .ok (.invokevirtual 116, 3) := by decide +kernel
theorem dX8_check_26 : decode cX8_check 26 = .ok (.astore_n 3, 1) := by decide +kernel
theorem dX8_check_27 : decode cX8_check 27 = .ok (.aload_n 3, 1) := by decide +kernel
theorem dX8_check_28 : decode cX8_check 28 = .ok (.ifnonnull 10, 3) := by decide +kernel
theorem dX8_check_31 : decode cX8_check 31 = .ok (.aload_n 0, 1) := by decide +kernel
theorem dX8_check_32 : decode cX8_check 32 = .ok (.ldc 67, 2) := by decide +kernel
theorem dX8_check_34 : decode cX8_check 34 = .ok (.invokevirtual 68, 3) := by decide +kernel
theorem dX8_check_37 : decode cX8_check 37 = .ok (.ireturn, 1) := by decide +kernel
theorem dX8_check_38 : decode cX8_check 38 = .ok (.aload_n 0, 1) := by decide +kernel
theorem dX8_check_39 : decode cX8_check 39 = .ok (.aload_n 3, 1) := by decide +kernel
theorem dX8_check_40 : decode cX8_check 40 = .ok (.iload_n 2, 1) := by decide +kernel
theorem dX8_check_41 : decode cX8_check 41 = .ok (.invokevirtual 221, 3) := by decide +kernel
theorem dX8_check_44 : decode cX8_check 44 = .ok (.ifCond .eq 13, 3) := by decide +kernel
theorem dX8_check_47 : decode cX8_check 47 = .ok (.aload_n 0, 1) := by decide +kernel
theorem dX8_check_48 : decode cX8_check 48 = .ok (.getfield 40, 3) := by decide +kernel
theorem dX8_check_51 : decode cX8_check 51 = .ok (.getfield 150, 3) := by decide +kernel
theorem dX8_check_54 : decode cX8_check 54 = .ok (.goto 9, 3) := by decide +kernel
theorem dX8_check_57 : decode cX8_check 57 = .ok (.aload_n 0, 1) := by decide +kernel
theorem dX8_check_58 : decode cX8_check 58 = .ok (.ldc 176, 2) := by decide +kernel
theorem dX8_check_60 : decode cX8_check 60 = .ok (.invokevirtual 68, 3) := by decide +kernel
theorem dX8_check_63 : decode cX8_check 63 = .ok (.ireturn, 1) := by decide +kernel
theorem dX8_count_0 : decode cX8_count 0 = .ok (.iload_n 1, 1) := by decide +kernel
theorem dX8_count_1 : decode cX8_count 1 = .ok (.tableswitch 90 0 6 #[43, 51, 56, 64, 72, 77, 82], 43) := by decide +kernel
theorem dX8_count_44 : decode cX8_count 44 = .ok (.aload_n 0, 1) := by decide +kernel
theorem dX8_count_45 : decode cX8_count 45 = .ok (.getfield 16, 3) := by decide +kernel
theorem dX8_count_48 : decode cX8_count 48 = .ok (.getfield 200, 3) := by decide +kernel
theorem dX8_count_51 : decode cX8_count 51 = .ok (.ireturn, 1) := by decide +kernel
theorem dX8_count_52 : decode cX8_count 52 = .ok (.aload_n 0, 1) := by decide +kernel
theorem dX8_count_53 : decode cX8_count 53 = .ok (.getfield 33, 3) := by decide +kernel
theorem dX8_count_56 : decode cX8_count 56 = .ok (.ireturn, 1) := by decide +kernel
theorem dX8_count_57 : decode cX8_count 57 = .ok (.aload_n 0, 1) := by decide +kernel
theorem dX8_count_58 : decode cX8_count 58 = .ok (.getfield 50, 3) := by decide +kernel
theorem dX8_count_61 : decode cX8_count 61 = .ok (.getfield 168, 3) := by decide +kernel
theorem dX8_count_64 : decode cX8_count 64 = .ok (.ireturn, 1) := by decide +kernel
theorem dX8_count_65 : decode cX8_count 65 = .ok (.aload_n 0, 1) := by decide +kernel
theorem dX8_count_66 : decode cX8_count 66 = .ok (.getfield 57, 3) := by decide +kernel
theorem dX8_count_69 : decode cX8_count 69 = .ok (.getfield 224, 3) := by decide +kernel
theorem dX8_count_72 : decode cX8_count 72 = .ok (.ireturn, 1) := by decide +kernel
theorem dX8_count_73 : decode cX8_count 73 = .ok (.aload_n 0, 1) := by decide +kernel
theorem dX8_count_74 : decode cX8_count 74 = .ok (.getfield 64, 3) := by decide +kernel
theorem dX8_count_77 : decode cX8_count 77 = .ok (.ireturn, 1) := by decide +kernel
theorem dX8_count_78 : decode cX8_count 78 = .ok (.aload_n 0, 1) := by decide +kernel
theorem dX8_count_79 : decode cX8_count 79 = .ok (.invokevirtual 225, 3) := by decide +kernel
theorem dX8_count_82 : decode cX8_count 82 = .ok (.ireturn, 1) := by decide +kernel
theorem dX8_count_83 : decode cX8_count 83 = .ok (.aload_n 0, 1) := by decide +kernel
theorem dX8_count_84 : decode cX8_count 84 = .ok (.getfield 16, 3) := by decide +kernel
theorem dX8_count_87 : decode cX8_count 87 = .ok (.getfield 106, 3) := by decide +kernel
theorem dX8_count_90 : decode cX8_count 90 = .ok (.ireturn, 1) := by decide +kernel
theorem dX8_count_91 : decode cX8_count 91 = .ok (.aload_n 0, 1) := by decide +kernel
theorem dX8_count_92 : decode cX8_count 92 = .ok (.ldc 67, 2) := by decide +kernel
theorem dX8_count_94 : decode cX8_count 94 = .ok (.invokevirtual 68, 3) := by decide +kernel
theorem dX8_count_97 : decode cX8_count 97 = .ok (.ireturn, 1) := by decide +kernel
theorem dX8_found_0 : decode cX8_found 0 = .ok (.iload_n 1, 1) := by decide +kernel
theorem dX8_found_1 : decode cX8_found 1 = .ok (.iconst 1, 1) := by decide +kernel
theorem dX8_found_2 : decode cX8_found 2 = .ok (.if_icmp .lt 8, 3) := by decide +kernel
theorem dX8_found_5 : decode cX8_found 5 = .ok (.iload_n 1, 1) := by decide +kernel
theorem dX8_found_6 : decode cX8_found 6 = .ok (.iconst 5, 1) := by decide +kernel
theorem dX8_found_7 : decode cX8_found 7 = .ok (.if_icmp .le 10, 3) := by decide +kernel
theorem dX8_found_10 : decode cX8_found 10 = .ok (.aload_n 0, 1) := by decide +kernel
theorem dX8_found_11 : decode cX8_found 11 = .ok (.ldc 67, 2) := by decide +kernel
theorem dX8_found_13 : decode cX8_found 13 = .ok (.invokevirtual 68, 3) := by decide +kernel
theorem dX8_found_16 : decode cX8_found 16 = .ok (.ireturn, 1) := by decide +kernel
theorem dX8_found_17 : decode cX8_found 17 = .ok (.aload_n 0, 1) := by decide +kernel
theorem dX8_found_18 : decode cX8_found 18 = .ok (.getfield 9, 3) := by decide +kernel
theorem dX8_found_21 : decode cX8_found 21 = .ok (.iload_n 1, 1) := by decide +kernel
theorem dX8_found_22 : decode cX8_found 22 = .ok (.iaload, 1) := by decide +kernel
theorem dX8_found_23 : decode cX8_found 23 = .ok (.ireturn, 1) := by decide +kernel
theorem dX8_finding_0 : decode cX8_finding 0 = .ok (.ldc 229, 2) := by decide +kernel
theorem dX8_finding_2 : decode cX8_finding 2 = .ok (.iload_n 1, 1) := by decide +kernel
theorem dX8_finding_3 : decode cX8_finding 3 = .ok (.isub, 1) := by decide +kernel
theorem dX8_finding_4 : decode cX8_finding 4 = .ok (.istore_n 2, 1) := by decide +kernel
theorem dX8_finding_5 : decode cX8_finding 5 = .ok (.iload_n 2, 1) := by decide +kernel
theorem dX8_finding_6 : decode cX8_finding 6 = .ok (.iconst 1, 1) := by decide +kernel
theorem dX8_finding_7 : decode cX8_finding 7 = .ok (.if_icmp .lt 18, 3) := by decide +kernel
theorem dX8_finding_10 : decode cX8_finding 10 = .ok (.iload_n 2, 1) := by decide +kernel
theorem dX8_finding_11 : decode cX8_finding 11 = .ok (.iconst 5, 1) := by decide +kernel
theorem dX8_finding_12 : decode cX8_finding 12 = .ok (.if_icmp .gt 13, 3) := by decide +kernel
theorem dX8_finding_15 : decode cX8_finding 15 = .ok (.aload_n 0, 1) := by decide +kernel
theorem dX8_finding_16 : decode cX8_finding 16 = .ok (.getfield 9, 3) := by decide +kernel
theorem dX8_finding_19 : decode cX8_finding 19 = .ok (.iload_n 2, 1) := by decide +kernel
theorem dX8_finding_20 : decode cX8_finding 20 = .ok (.dup2, 1) := by decide +kernel
theorem dX8_finding_21 : decode cX8_finding 21 = .ok (.iaload, 1) := by decide +kernel
theorem dX8_finding_22 : decode cX8_finding 22 = .ok (.iconst 1, 1) := by decide +kernel
theorem dX8_finding_23 : decode cX8_finding 23 = .ok (.iadd, 1) := by decide +kernel
theorem dX8_finding_24 : decode cX8_finding 24 = .ok (.iastore, 1) := by decide +kernel
theorem dX8_finding_25 : decode cX8_finding 25 = .ok (.iload_n 1, 1) := by decide +kernel
theorem dX8_finding_26 : decode cX8_finding 26 = .ok (.ireturn, 1) := by decide +kernel
theorem dX8_isWithin_0 : decode cX8_isWithin 0 = .ok (.iload_n 0, 1) := by decide +kernel
theorem dX8_isWithin_1 : decode cX8_isWithin 1 = .ok (.ifCond .lt 12, 3) := by decide +kernel
theorem dX8_isWithin_4 : decode cX8_isWithin 4 = .ok (.iload_n 0, 1) := by decide +kernel
theorem dX8_isWithin_5 : decode cX8_isWithin 5 = .ok (.iload_n 1, 1) := by decide +kernel
theorem dX8_isWithin_6 : decode cX8_isWithin 6 = .ok (.if_icmp .gt 7, 3) := by decide +kernel
theorem dX8_isWithin_9 : decode cX8_isWithin 9 = .ok (.iconst 1, 1) := by decide +kernel
theorem dX8_isWithin_10 : decode cX8_isWithin 10 = .ok (.goto 4, 3) := by decide +kernel
theorem dX8_isWithin_13 : decode cX8_isWithin 13 = .ok (.iconst 0, 1) := by decide +kernel
theorem dX8_isWithin_14 : decode cX8_isWithin 14 = .ok (.ireturn, 1) := by decide +kernel
theorem dX8_isHour_0 : decode cX8_isHour 0 = .ok (.iload_n 0, 1) := by decide +kernel
theorem dX8_isHour_1 : decode cX8_isHour 1 = .ok (.ifCond .lt 13, 3) := by decide +kernel
theorem dX8_isHour_4 : decode cX8_isHour 4 = .ok (.iload_n 0, 1) := by decide +kernel
theorem dX8_isHour_5 : decode cX8_isHour 5 = .ok (.bipush 12, 2) := by decide +kernel
theorem dX8_isHour_7 : decode cX8_isHour 7 = .ok (.if_icmp .ge 7, 3) := by decide +kernel
theorem dX8_isHour_10 : decode cX8_isHour 10 = .ok (.iconst 1, 1) := by decide +kernel
theorem dX8_isHour_11 : decode cX8_isHour 11 = .ok (.goto 4, 3) := by decide +kernel
theorem dX8_isHour_14 : decode cX8_isHour 14 = .ok (.iconst 0, 1) := by decide +kernel
theorem dX8_isHour_15 : decode cX8_isHour 15 = .ok (.ireturn, 1) := by decide +kernel
theorem dX8_isPlace_0 : decode cX8_isPlace 0 = .ok (.iload_n 1, 1) := by decide +kernel
theorem dX8_isPlace_1 : decode cX8_isPlace 1 = .ok (.ifCond .lt 31, 3) := by decide +kernel
theorem dX8_isPlace_4 : decode cX8_isPlace 4 = .ok (.aload_n 0, 1) := by decide +kernel
theorem dX8_isPlace_5 : decode cX8_isPlace 5 = .ok (.getfield 16, 3) := by decide +kernel
theorem dX8_isPlace_8 : decode cX8_isPlace 8 = .ok (.iload_n 1, 1) := by decide +kernel
theorem dX8_isPlace_9 : decode cX8_isPlace 9 = .ok (.invokestatic 178, 3) := by decide +kernel
theorem dX8_isPlace_12 : decode cX8_isPlace 12 = .ok (.invokevirtual 81, 3) := by decide +kernel
theorem dX8_isPlace_15 : decode cX8_isPlace 15 = .ok (.ifCond .eq 17, 3) := by decide +kernel
theorem dX8_isPlace_18 : decode cX8_isPlace 18 = .ok (.iload_n 1, 1) := by decide +kernel
theorem dX8_isPlace_19 : decode cX8_isPlace 19 = .ok (.invokestatic 165, 3) := by decide +kernel
theorem dX8_isPlace_22 : decode cX8_isPlace 22 = .ok (.invokestatic 97, 3) := by decide +kernel
theorem dX8_isPlace_25 : decode cX8_isPlace 25 = .ok (.ifCond .eq 7, 3) := by decide +kernel
theorem dX8_isPlace_28 : decode cX8_isPlace 28 = .ok (.iconst 1, 1) := by decide +kernel
theorem dX8_isPlace_29 : decode cX8_isPlace 29 = .ok (.goto 4, 3) := by decide +kernel
theorem dX8_isPlace_32 : decode cX8_isPlace 32 = .ok (.iconst 0, 1) := by decide +kernel
theorem dX8_isPlace_33 : decode cX8_isPlace 33 = .ok (.ireturn, 1) := by decide +kernel
theorem dX8_streetOf_0 : decode cX8_streetOf 0 = .ok (.iload_n 0, 1) := by decide +kernel
theorem dX8_streetOf_1 : decode cX8_streetOf 1 = .ok (.bipush 100, 2) := by decide +kernel
theorem dX8_streetOf_3 : decode cX8_streetOf 3 = .ok (.idiv, 1) := by decide +kernel
theorem dX8_streetOf_4 : decode cX8_streetOf 4 = .ok (.ireturn, 1) := by decide +kernel
theorem dX8_hourOf_0 : decode cX8_hourOf 0 = .ok (.iload_n 0, 1) := by decide +kernel
theorem dX8_hourOf_1 : decode cX8_hourOf 1 = .ok (.bipush 100, 2) := by decide +kernel
theorem dX8_hourOf_3 : decode cX8_hourOf 3 = .ok (.irem, 1) := by decide +kernel
theorem dX8_hourOf_4 : decode cX8_hourOf 4 = .ok (.ireturn, 1) := by decide +kernel
theorem dX8_isPair_0 : decode cX8_isPair 0 = .ok (.iload_n 1, 1) := by decide +kernel
theorem dX8_isPair_1 : decode cX8_isPair 1 = .ok (.ifCond .lt 35, 3) := by decide +kernel
theorem dX8_isPair_4 : decode cX8_isPair 4 = .ok (.aload_n 0, 1) := by decide +kernel
theorem dX8_isPair_5 : decode cX8_isPair 5 = .ok (.getfield 16, 3) := by decide +kernel
theorem dX8_isPair_8 : decode cX8_isPair 8 = .ok (.iload_n 1, 1) := by decide +kernel
theorem dX8_isPair_9 : decode cX8_isPair 9 = .ok (.bipush 10, 2) := by decide +kernel
theorem dX8_isPair_11 : decode cX8_isPair 11 = .ok (.idiv, 1) := by decide +kernel
theorem dX8_isPair_12 : decode cX8_isPair 12 = .ok (.invokevirtual 81, 3) := by decide +kernel
theorem dX8_isPair_15 : decode cX8_isPair 15 = .ok (.ifCond .eq 21, 3) := by decide +kernel
theorem dX8_isPair_18 : decode cX8_isPair 18 = .ok (.aload_n 0, 1) := by decide +kernel
theorem dX8_isPair_19 : decode cX8_isPair 19 = .ok (.getfield 16, 3) := by decide +kernel
theorem dX8_isPair_22 : decode cX8_isPair 22 = .ok (.iload_n 1, 1) := by decide +kernel
theorem dX8_isPair_23 : decode cX8_isPair 23 = .ok (.bipush 10, 2) := by decide +kernel
theorem dX8_isPair_25 : decode cX8_isPair 25 = .ok (.irem, 1) := by decide +kernel
theorem dX8_isPair_26 : decode cX8_isPair 26 = .ok (.invokevirtual 81, 3) := by decide +kernel
theorem dX8_isPair_29 : decode cX8_isPair 29 = .ok (.ifCond .eq 7, 3) := by decide +kernel
theorem dX8_isPair_32 : decode cX8_isPair 32 = .ok (.iconst 1, 1) := by decide +kernel
theorem dX8_isPair_33 : decode cX8_isPair 33 = .ok (.goto 4, 3) := by decide +kernel
theorem dX8_isPair_36 : decode cX8_isPair 36 = .ok (.iconst 0, 1) := by decide +kernel
theorem dX8_isPair_37 : decode cX8_isPair 37 = .ok (.ireturn, 1) := by decide +kernel
theorem dX8_isKind_0 : decode cX8_isKind 0 = .ok (.iload_n 0, 1) := by decide +kernel
theorem dX8_isKind_1 : decode cX8_isKind 1 = .ok (.ifCond .eq 13, 3) := by decide +kernel
theorem dX8_isKind_4 : decode cX8_isKind 4 = .ok (.iload_n 0, 1) := by decide +kernel
theorem dX8_isKind_5 : decode cX8_isKind 5 = .ok (.iconst 1, 1) := by decide +kernel
theorem dX8_isKind_6 : decode cX8_isKind 6 = .ok (.if_icmp .eq 8, 3) := by decide +kernel
theorem dX8_isKind_9 : decode cX8_isKind 9 = .ok (.iload_n 0, 1) := by decide +kernel
theorem dX8_isKind_10 : decode cX8_isKind 10 = .ok (.iconst 2, 1) := by decide +kernel
theorem dX8_isKind_11 : decode cX8_isKind 11 = .ok (.if_icmp .ne 7, 3) := by decide +kernel
theorem dX8_isKind_14 : decode cX8_isKind 14 = .ok (.iconst 1, 1) := by decide +kernel
theorem dX8_isKind_15 : decode cX8_isKind 15 = .ok (.goto 4, 3) := by decide +kernel
theorem dX8_isKind_18 : decode cX8_isKind 18 = .ok (.iconst 0, 1) := by decide +kernel
theorem dX8_isKind_19 : decode cX8_isKind 19 = .ok (.ireturn, 1) := by decide +kernel
theorem dX8_newVan_0 : decode cX8_newVan 0 = .ok (.iload_n 0, 1) := by decide +kernel
theorem dX8_newVan_1 : decode cX8_newVan 1 = .ok (.iconst 1, 1) := by decide +kernel
theorem dX8_newVan_2 : decode cX8_newVan 2 = .ok (.if_icmp .ne 11, 3) := by decide +kernel
theorem dX8_newVan_5 : decode cX8_newVan 5 = .ok (.new 230, 3) := by decide +kernel
theorem dX8_newVan_8 : decode cX8_newVan 8 = .ok (.dup, 1) := by decide +kernel
theorem dX8_newVan_9 : decode cX8_newVan 9 = .ok (.invokespecial 232, 3) := by decide +kernel
theorem dX8_newVan_12 : decode cX8_newVan 12 = .ok (.areturn, 1) := by decide +kernel
theorem dX8_newVan_13 : decode cX8_newVan 13 = .ok (.iload_n 0, 1) := by decide +kernel
theorem dX8_newVan_14 : decode cX8_newVan 14 = .ok (.iconst 2, 1) := by decide +kernel
theorem dX8_newVan_15 : decode cX8_newVan 15 = .ok (.if_icmp .ne 11, 3) := by decide +kernel
theorem dX8_newVan_18 : decode cX8_newVan 18 = .ok (.new 233, 3) := by decide +kernel
theorem dX8_newVan_21 : decode cX8_newVan 21 = .ok (.dup, 1) := by decide +kernel
theorem dX8_newVan_22 : decode cX8_newVan 22 = .ok (.invokespecial 235, 3) := by decide +kernel
theorem dX8_newVan_25 : decode cX8_newVan 25 = .ok (.areturn, 1) := by decide +kernel
theorem dX8_newVan_26 : decode cX8_newVan 26 = .ok (.new 27, 3) := by decide +kernel
theorem dX8_newVan_29 : decode cX8_newVan 29 = .ok (.dup, 1) := by decide +kernel
theorem dX8_newVan_30 : decode cX8_newVan 30 = .ok (.invokespecial 236, 3) := by decide +kernel
theorem dX8_newVan_33 : decode cX8_newVan 33 = .ok (.areturn, 1) := by decide +kernel
theorem dX8_isOfKind_0 : decode cX8_isOfKind 0 = .ok (.iload_n 1, 1) := by decide +kernel
theorem dX8_isOfKind_1 : decode cX8_isOfKind 1 = .ok (.iconst 1, 1) := by decide +kernel
theorem dX8_isOfKind_2 : decode cX8_isOfKind 2 = .ok (.if_icmp .ne 8, 3) := by decide +kernel
theorem dX8_isOfKind_5 : decode cX8_isOfKind 5 = .ok (.aload_n 0, 1) := by decide +kernel
theorem dX8_isOfKind_6 : decode cX8_isOfKind 6 = .ok (.instanceof 230, 3) := by decide +kernel
theorem dX8_isOfKind_9 : decode cX8_isOfKind 9 = .ok (.ireturn, 1) := by decide +kernel
theorem dX8_isOfKind_10 : decode cX8_isOfKind 10 = .ok (.iload_n 1, 1) := by decide +kernel
theorem dX8_isOfKind_11 : decode cX8_isOfKind 11 = .ok (.iconst 2, 1) := by decide +kernel
theorem dX8_isOfKind_12 : decode cX8_isOfKind 12 = .ok (.if_icmp .ne 8, 3) := by decide +kernel
theorem dX8_isOfKind_15 : decode cX8_isOfKind 15 = .ok (.aload_n 0, 1) := by decide +kernel
theorem dX8_isOfKind_16 : decode cX8_isOfKind 16 = .ok (.instanceof 233, 3) := by decide +kernel
theorem dX8_isOfKind_19 : decode cX8_isOfKind 19 = .ok (.ireturn, 1) := by decide +kernel
theorem dX8_isOfKind_20 : decode cX8_isOfKind 20 = .ok (.iconst 1, 1) := by decide +kernel
theorem dX8_isOfKind_21 : decode cX8_isOfKind 21 = .ok (.ireturn, 1) := by decide +kernel
theorem dX8_vanNumber_0 : decode cX8_vanNumber 0 = .ok (.iload_n 1, 1) := by decide +kernel
theorem dX8_vanNumber_1 : decode cX8_vanNumber 1 = .ok (.ifCond .lt 20, 3) := by decide +kernel
theorem dX8_vanNumber_4 : decode cX8_vanNumber 4 = .ok (.iload_n 1, 1) := by decide +kernel
theorem dX8_vanNumber_5 : decode cX8_vanNumber 5 = .ok (.aload_n 0, 1) := by decide +kernel
theorem dX8_vanNumber_6 : decode cX8_vanNumber 6 = .ok (.getfield 33, 3) := by decide +kernel
theorem dX8_vanNumber_9 : decode cX8_vanNumber 9 = .ok (.if_icmp .ge 12, 3) := by decide +kernel
theorem dX8_vanNumber_12 : decode cX8_vanNumber 12 = .ok (.aload_n 0, 1) := by decide +kernel
theorem dX8_vanNumber_13 : decode cX8_vanNumber 13 = .ok (.getfield 29, 3) := by decide +kernel
theorem dX8_vanNumber_16 : decode cX8_vanNumber 16 = .ok (.iload_n 1, 1) := by decide +kernel
theorem dX8_vanNumber_17 : decode cX8_vanNumber 17 = .ok (.aaload, 1) := by decide +kernel
theorem dX8_vanNumber_18 : decode cX8_vanNumber 18 = .ok (.goto 4, 3) := by decide +kernel
theorem dX8_vanNumber_21 : decode cX8_vanNumber 21 = .ok (.aconst_null, 1) := by decide +kernel
theorem dX8_vanNumber_22 : decode cX8_vanNumber 22 = .ok (.areturn, 1) := by decide +kernel
theorem dX8_areTwoVans_0 : decode cX8_areTwoVans 0 = .ok (.aload_n 0, 1) := by decide +kernel
theorem dX8_areTwoVans_1 : decode cX8_areTwoVans 1 = .ok (.iload_n 1, 1) := by decide +kernel
theorem dX8_areTwoVans_2 : decode cX8_areTwoVans 2 = .ok (.invokevirtual 116, 3) := by decide +kernel
theorem dX8_areTwoVans_5 : decode cX8_areTwoVans 5 = .ok (.ifnull 20, 3) := by decide +kernel
theorem dX8_areTwoVans_8 : decode cX8_areTwoVans 8 = .ok (.aload_n 0, 1) := by decide +kernel
theorem dX8_areTwoVans_9 : decode cX8_areTwoVans 9 = .ok (.iload_n 2, 1) := by decide +kernel
theorem dX8_areTwoVans_10 : decode cX8_areTwoVans 10 = .ok (.invokevirtual 116, 3) := by decide +kernel
theorem dX8_areTwoVans_13 : decode cX8_areTwoVans 13 = .ok (.ifnull 12, 3) := by decide +kernel
theorem dX8_areTwoVans_16 : decode cX8_areTwoVans 16 = .ok (.iload_n 1, 1) := by decide +kernel
theorem dX8_areTwoVans_17 : decode cX8_areTwoVans 17 = .ok (.iload_n 2, 1) := by decide +kernel
theorem dX8_areTwoVans_18 : decode cX8_areTwoVans 18 = .ok (.if_icmp .eq 7, 3) := by decide +kernel
theorem dX8_areTwoVans_21 : decode cX8_areTwoVans 21 = .ok (.iconst 1, 1) := by decide +kernel
theorem dX8_areTwoVans_22 : decode cX8_areTwoVans 22 = .ok (.goto 4, 3) := by decide +kernel
theorem dX8_areTwoVans_25 : decode cX8_areTwoVans 25 = .ok (.iconst 0, 1) := by decide +kernel
theorem dX8_areTwoVans_26 : decode cX8_areTwoVans 26 = .ok (.ireturn, 1) := by decide +kernel
theorem dX8_stockOfAll_0 : decode cX8_stockOfAll 0 = .ok (.iconst 0, 1) := by decide +kernel
theorem dX8_stockOfAll_1 : decode cX8_stockOfAll 1 = .ok (.istore_n 1, 1) := by decide +kernel
theorem dX8_stockOfAll_2 : decode cX8_stockOfAll 2 = .ok (.iconst 0, 1) := by decide +kernel
theorem dX8_stockOfAll_3 : decode cX8_stockOfAll 3 = .ok (.istore_n 2, 1) := by decide +kernel
theorem dX8_stockOfAll_4 : decode cX8_stockOfAll 4 = .ok (.iload_n 2, 1) := by decide +kernel
theorem dX8_stockOfAll_5 : decode cX8_stockOfAll 5 = .ok (.aload_n 0, 1) := by decide +kernel
theorem dX8_stockOfAll_6 : decode cX8_stockOfAll 6 = .ok (.getfield 33, 3) := by decide +kernel
theorem dX8_stockOfAll_9 : decode cX8_stockOfAll 9 = .ok (.if_icmp .ge 27, 3) := by decide +kernel
theorem dX8_stockOfAll_12 : decode cX8_stockOfAll 12 = .ok (.aload_n 0, 1) := by decide +kernel
theorem dX8_stockOfAll_13 : decode cX8_stockOfAll 13 = .ok (.getfield 29, 3) := by decide +kernel
theorem dX8_stockOfAll_16 : decode cX8_stockOfAll 16 = .ok (.iload_n 2, 1) := by decide +kernel
theorem dX8_stockOfAll_17 : decode cX8_stockOfAll 17 = .ok (.aaload, 1) := by decide +kernel
theorem dX8_stockOfAll_18 : decode cX8_stockOfAll 18 = .ok (.astore_n 3, 1) := by decide +kernel
theorem dX8_stockOfAll_19 : decode cX8_stockOfAll 19 = .ok (.aload_n 3, 1) := by decide +kernel
theorem dX8_stockOfAll_20 : decode cX8_stockOfAll 20 = .ok (.ifnull 10, 3) := by decide +kernel
theorem dX8_stockOfAll_23 : decode cX8_stockOfAll 23 = .ok (.iload_n 1, 1) := by decide +kernel
theorem dX8_stockOfAll_24 : decode cX8_stockOfAll 24 = .ok (.aload_n 3, 1) := by decide +kernel
theorem dX8_stockOfAll_25 : decode cX8_stockOfAll 25 = .ok (.getfield 124, 3) := by decide +kernel
theorem dX8_stockOfAll_28 : decode cX8_stockOfAll 28 = .ok (.iadd, 1) := by decide +kernel
theorem dX8_stockOfAll_29 : decode cX8_stockOfAll 29 = .ok (.istore_n 1, 1) := by decide +kernel
theorem dX8_stockOfAll_30 : decode cX8_stockOfAll 30 = .ok (.iinc 2 1, 3) := by decide +kernel
theorem dX8_stockOfAll_33 : decode cX8_stockOfAll 33 = .ok (.goto (-29), 3) := by decide +kernel
theorem dX8_stockOfAll_36 : decode cX8_stockOfAll 36 = .ok (.iload_n 1, 1) := by decide +kernel
theorem dX8_stockOfAll_37 : decode cX8_stockOfAll 37 = .ok (.ireturn, 1) := by decide +kernel
theorem dX8_mayStand_0 : decode cX8_mayStand 0 = .ok (.aload_n 1, 1) := by decide +kernel
theorem dX8_mayStand_1 : decode cX8_mayStand 1 = .ok (.iload_n 2, 1) := by decide +kernel
theorem dX8_mayStand_2 : decode cX8_mayStand 2 = .ok (.invokevirtual 237, 3) := by decide +kernel
theorem dX8_mayStand_5 : decode cX8_mayStand 5 = .ok (.ifCond .eq 16, 3) := by decide +kernel
theorem dX8_mayStand_8 : decode cX8_mayStand 8 = .ok (.aload_n 0, 1) := by decide +kernel
theorem dX8_mayStand_9 : decode cX8_mayStand 9 = .ok (.iload_n 2, 1) := by decide +kernel
theorem dX8_mayStand_10 : decode cX8_mayStand 10 = .ok (.iload_n 3, 1) := by decide +kernel
theorem dX8_mayStand_11 : decode cX8_mayStand 11 = .ok (.invokevirtual 240, 3) := by decide +kernel
theorem dX8_mayStand_14 : decode cX8_mayStand 14 = .ok (.ifCond .ne 7, 3) := by decide +kernel
theorem dX8_mayStand_17 : decode cX8_mayStand 17 = .ok (.iconst 1, 1) := by decide +kernel
theorem dX8_mayStand_18 : decode cX8_mayStand 18 = .ok (.goto 4, 3) := by decide +kernel
theorem dX8_mayStand_21 : decode cX8_mayStand 21 = .ok (.iconst 0, 1) := by decide +kernel
theorem dX8_mayStand_22 : decode cX8_mayStand 22 = .ok (.ireturn, 1) := by decide +kernel
theorem dX8_isBarred_0 : decode cX8_isBarred 0 = .ok (.aload_n 0, 1) := by decide +kernel
theorem dX8_isBarred_1 : decode cX8_isBarred 1 = .ok (.getfield 16, 3) := by decide +kernel
theorem dX8_isBarred_4 : decode cX8_isBarred 4 = .ok (.getfield 243, 3) := by decide +kernel
theorem dX8_isBarred_7 : decode cX8_isBarred 7 = .ok (.iload_n 1, 1) := by decide +kernel
theorem dX8_isBarred_8 : decode cX8_isBarred 8 = .ok (.baload, 1) := by decide +kernel
theorem dX8_isBarred_9 : decode cX8_isBarred 9 = .ok (.ifCond .eq 18, 3) := by decide +kernel
theorem dX8_isBarred_12 : decode cX8_isBarred 12 = .ok (.aload_n 0, 1) := by decide +kernel
theorem dX8_isBarred_13 : decode cX8_isBarred 13 = .ok (.getfield 23, 3) := by decide +kernel
theorem dX8_isBarred_16 : decode cX8_isBarred 16 = .ok (.iload_n 2, 1) := by decide +kernel
theorem dX8_isBarred_17 : decode cX8_isBarred 17 = .ok (.invokevirtual 247, 3) := by decide +kernel
theorem dX8_isBarred_20 : decode cX8_isBarred 20 = .ok (.ifCond .eq 7, 3) := by decide +kernel
theorem dX8_isBarred_23 : decode cX8_isBarred 23 = .ok (.iconst 1, 1) := by decide +kernel
theorem dX8_isBarred_24 : decode cX8_isBarred 24 = .ok (.goto 4, 3) := by decide +kernel
theorem dX8_isBarred_27 : decode cX8_isBarred 27 = .ok (.iconst 0, 1) := by decide +kernel
theorem dX8_isBarred_28 : decode cX8_isBarred 28 = .ok (.ireturn, 1) := by decide +kernel
theorem dX8_hoursBetween_0 : decode cX8_hoursBetween 0 = .ok (.iload_n 2, 1) := by decide +kernel
theorem dX8_hoursBetween_1 : decode cX8_hoursBetween 1 = .ok (.iload_n 3, 1) := by decide +kernel
theorem dX8_hoursBetween_2 : decode cX8_hoursBetween 2 = .ok (.if_icmp .ne 7, 3) := by decide +kernel
theorem dX8_hoursBetween_5 : decode cX8_hoursBetween 5 = .ok (.iconst 1, 1) := by decide +kernel
theorem dX8_hoursBetween_6 : decode cX8_hoursBetween 6 = .ok (.goto 16, 3) := by decide +kernel
theorem dX8_hoursBetween_9 : decode cX8_hoursBetween 9 = .ok (.aload_n 1, 1) := by decide +kernel
theorem dX8_hoursBetween_10 : decode cX8_hoursBetween 10 = .ok (.aload_n 0, 1) := by decide +kernel
theorem dX8_hoursBetween_11 : decode cX8_hoursBetween 11 = .ok (.getfield 16, 3) := by decide +kernel
theorem dX8_hoursBetween_14 : decode cX8_hoursBetween 14 = .ok (.iload_n 2, 1) := by decide +kernel
theorem dX8_hoursBetween_15 : decode cX8_hoursBetween 15 = .ok (.iload_n 3, 1) := by decide +kernel
theorem dX8_hoursBetween_16 : decode cX8_hoursBetween 16 = .ok (.invokevirtual 89, 3) := by decide +kernel
theorem dX8_hoursBetween_19 : decode cX8_hoursBetween 19 = .ok (.invokevirtual 250, 3) := by decide +kernel
theorem dX8_hoursBetween_22 : decode cX8_hoursBetween 22 = .ok (.ireturn, 1) := by decide +kernel
theorem dX8_makePlan_0 : decode cX8_makePlan 0 = .ok (.aload_n 0, 1) := by decide +kernel
theorem dX8_makePlan_1 : decode cX8_makePlan 1 = .ok (.iload_n 1, 1) := by decide +kernel
theorem dX8_makePlan_2 : decode cX8_makePlan 2 = .ok (.invokevirtual 116, 3) := by decide +kernel
theorem dX8_makePlan_5 : decode cX8_makePlan 5 = .ok (.astore 4, 2) := by decide +kernel
theorem dX8_makePlan_7 : decode cX8_makePlan 7 = .ok (.aload 4, 2) := by decide +kernel
theorem dX8_makePlan_9 : decode cX8_makePlan 9 = .ok (.ifnull 22, 3) := by decide +kernel
theorem dX8_makePlan_12 : decode cX8_makePlan 12 = .ok (.aload_n 0, 1) := by decide +kernel
theorem dX8_makePlan_13 : decode cX8_makePlan 13 = .ok (.iload_n 2, 1) := by decide +kernel
theorem dX8_makePlan_14 : decode cX8_makePlan 14 = .ok (.invokevirtual 162, 3) := by decide +kernel
theorem dX8_makePlan_17 : decode cX8_makePlan 17 = .ok (.ifCond .eq 14, 3) := by decide +kernel
theorem dX8_makePlan_20 : decode cX8_makePlan 20 = .ok (.iload_n 3, 1) := by decide +kernel
theorem dX8_makePlan_21 : decode cX8_makePlan 21 = .ok (.iconst 1, 1) := by decide +kernel
theorem dX8_makePlan_22 : decode cX8_makePlan 22 = .ok (.if_icmp .lt 9, 3) := by decide +kernel
theorem dX8_makePlan_25 : decode cX8_makePlan 25 = .ok (.iload_n 3, 1) := by decide +kernel
theorem dX8_makePlan_26 : decode cX8_makePlan 26 = .ok (.bipush 6, 2) := by decide +kernel
theorem dX8_makePlan_28 : decode cX8_makePlan 28 = .ok (.if_icmp .le 6, 3) := by decide +kernel
theorem dX8_makePlan_31 : decode cX8_makePlan 31 = .ok (.ldc 67, 2) := by decide +kernel
theorem dX8_makePlan_33 : decode cX8_makePlan 33 = .ok (.ireturn, 1) := by decide +kernel
theorem dX8_makePlan_34 : decode cX8_makePlan 34 = .ok (.iload_n 2, 1) := by decide +kernel
theorem dX8_makePlan_35 : decode cX8_makePlan 35 = .ok (.invokestatic 178, 3) := by decide +kernel
theorem dX8_makePlan_38 : decode cX8_makePlan 38 = .ok (.istore 5, 2) := by decide +kernel
theorem dX8_makePlan_40 : decode cX8_makePlan 40 = .ok (.iload_n 2, 1) := by decide +kernel
theorem dX8_makePlan_41 : decode cX8_makePlan 41 = .ok (.invokestatic 165, 3) := by decide +kernel
theorem dX8_makePlan_44 : decode cX8_makePlan 44 = .ok (.istore 6, 2) := by decide +kernel
theorem dX8_makePlan_46 : decode cX8_makePlan 46 = .ok (.aload_n 0, 1) := by decide +kernel
theorem dX8_makePlan_47 : decode cX8_makePlan 47 = .ok (.aload 4, 2) := by decide +kernel
theorem dX8_makePlan_49 : decode cX8_makePlan 49 = .ok (.iload 5, 2) := by decide +kernel
theorem dX8_makePlan_51 : decode cX8_makePlan 51 = .ok (.iload 6, 2) := by decide +kernel
theorem dX8_makePlan_53 : decode cX8_makePlan 53 = .ok (.invokevirtual 139, 3) := by decide +kernel
theorem dX8_makePlan_56 : decode cX8_makePlan 56 = .ok (.ifCond .ne 6, 3) := by decide +kernel
theorem dX8_makePlan_59 : decode cX8_makePlan 59 = .ok (.ldc 176, 2) := by decide +kernel
theorem dX8_makePlan_61 : decode cX8_makePlan 61 = .ok (.ireturn, 1) := by decide +kernel
theorem dX8_makePlan_62 : decode cX8_makePlan 62 = .ok (.aload_n 0, 1) := by decide +kernel
theorem dX8_makePlan_63 : decode cX8_makePlan 63 = .ok (.getfield 44, 3) := by decide +kernel
theorem dX8_makePlan_66 : decode cX8_makePlan 66 = .ok (.iconst 0, 1) := by decide +kernel
theorem dX8_makePlan_67 : decode cX8_makePlan 67 = .ok (.invokevirtual 253, 3) := by decide +kernel
theorem dX8_makePlan_70 : decode cX8_makePlan 70 = .ok (.aload_n 0, 1) := by decide +kernel
theorem dX8_makePlan_71 : decode cX8_makePlan 71 = .ok (.getfield 40, 3) := by decide +kernel
theorem dX8_makePlan_74 : decode cX8_makePlan 74 = .ok (.aload 4, 2) := by decide +kernel
theorem dX8_makePlan_76 : decode cX8_makePlan 76 = .ok (.getfield 124, 3) := by decide +kernel
theorem dX8_makePlan_79 : decode cX8_makePlan 79 = .ok (.invokevirtual 253, 3) := by decide +kernel
theorem dX8_makePlan_82 : decode cX8_makePlan 82 = .ok (.aload_n 0, 1) := by decide +kernel
theorem dX8_makePlan_83 : decode cX8_makePlan 83 = .ok (.aload 4, 2) := by decide +kernel
theorem dX8_makePlan_85 : decode cX8_makePlan 85 = .ok (.iload 5, 2) := by decide +kernel
theorem dX8_makePlan_87 : decode cX8_makePlan 87 = .ok (.iload 6, 2) := by decide +kernel
theorem dX8_makePlan_89 : decode cX8_makePlan 89 = .ok (.iload 6, 2) := by decide +kernel
theorem dX8_makePlan_91 : decode cX8_makePlan 91 = .ok (.iload_n 3, 1) := by decide +kernel
theorem dX8_makePlan_92 : decode cX8_makePlan 92 = .ok (.iadd, 1) := by decide +kernel
theorem dX8_makePlan_93 : decode cX8_makePlan 93 = .ok (.bipush 12, 2) := by decide +kernel
theorem dX8_makePlan_95 : decode cX8_makePlan 95 = .ok (.invokestatic 257, 3) := by decide +kernel
theorem dX8_makePlan_98 : decode cX8_makePlan 98 = .ok (.iconst 1, 1) := by decide +kernel
theorem dX8_makePlan_99 : decode cX8_makePlan 99 = .ok (.isub, 1) := by decide +kernel
theorem dX8_makePlan_100 : decode cX8_makePlan 100 = .ok (.invokevirtual 262, 3) := by decide +kernel
theorem dX8_makePlan_103 : decode cX8_makePlan 103 = .ok (.iconst 0, 1) := by decide +kernel
theorem dX8_makePlan_104 : decode cX8_makePlan 104 = .ok (.ireturn, 1) := by decide +kernel
theorem dX8_explore_0 : decode cX8_explore 0 = .ok (.aload_n 0, 1) := by decide +kernel
theorem dX8_explore_1 : decode cX8_explore 1 = .ok (.getfield 40, 3) := by decide +kernel
theorem dX8_explore_4 : decode cX8_explore 4 = .ok (.invokevirtual 266, 3) := by decide +kernel
theorem dX8_explore_7 : decode cX8_explore 7 = .ok (.ifCond .eq 4, 3) := by decide +kernel
theorem dX8_explore_10 : decode cX8_explore 10 = .ok (.return_, 1) := by decide +kernel
theorem dX8_explore_11 : decode cX8_explore 11 = .ok (.aload_n 0, 1) := by decide +kernel
theorem dX8_explore_12 : decode cX8_explore 12 = .ok (.getfield 40, 3) := by decide +kernel
theorem dX8_explore_15 : decode cX8_explore 15 = .ok (.getfield 161, 3) := by decide +kernel
theorem dX8_explore_18 : decode cX8_explore 18 = .ok (.istore 5, 2) := by decide +kernel
theorem dX8_explore_20 : decode cX8_explore 20 = .ok (.aload_n 0, 1) := by decide +kernel
theorem dX8_explore_21 : decode cX8_explore 21 = .ok (.getfield 40, 3) := by decide +kernel
theorem dX8_explore_24 : decode cX8_explore 24 = .ok (.getfield 150, 3) := by decide +kernel
theorem dX8_explore_27 : decode cX8_explore 27 = .ok (.istore 6, 2) := by decide +kernel
theorem dX8_explore_29 : decode cX8_explore 29 = .ok (.aload_n 0, 1) := by decide +kernel
theorem dX8_explore_30 : decode cX8_explore 30 = .ok (.getfield 40, 3) := by decide +kernel
theorem dX8_explore_33 : decode cX8_explore 33 = .ok (.aload_n 1, 1) := by decide +kernel
theorem dX8_explore_34 : decode cX8_explore 34 = .ok (.iload_n 2, 1) := by decide +kernel
theorem dX8_explore_35 : decode cX8_explore 35 = .ok (.iload_n 3, 1) := by decide +kernel
theorem dX8_explore_36 : decode cX8_explore 36 = .ok (.aload_n 0, 1) := by decide +kernel
theorem dX8_explore_37 : decode cX8_explore 37 = .ok (.getfield 16, 3) := by decide +kernel
theorem dX8_explore_40 : decode cX8_explore 40 = .ok (.iload_n 2, 1) := by decide +kernel
theorem dX8_explore_41 : decode cX8_explore 41 = .ok (.iload_n 3, 1) := by decide +kernel
theorem dX8_explore_42 : decode cX8_explore 42 = .ok (.invokevirtual 143, 3) := by decide +kernel
theorem dX8_explore_45 : decode cX8_explore 45 = .ok (.invokevirtual 267, 3) := by decide +kernel
theorem dX8_explore_48 : decode cX8_explore 48 = .ok (.aload_n 0, 1) := by decide +kernel
theorem dX8_explore_49 : decode cX8_explore 49 = .ok (.getfield 44, 3) := by decide +kernel
theorem dX8_explore_52 : decode cX8_explore 52 = .ok (.getfield 270, 3) := by decide +kernel
theorem dX8_explore_55 : decode cX8_explore 55 = .ok (.ifCond .eq 20, 3) := by decide +kernel
theorem dX8_explore_58 : decode cX8_explore 58 = .ok (.aload_n 0, 1) := by decide +kernel
theorem dX8_explore_59 : decode cX8_explore 59 = .ok (.getfield 40, 3) := by decide +kernel
theorem dX8_explore_62 : decode cX8_explore 62 = .ok (.getfield 150, 3) := by decide +kernel
theorem dX8_explore_65 : decode cX8_explore 65 = .ok (.aload_n 0, 1) := by decide +kernel
theorem dX8_explore_66 : decode cX8_explore 66 = .ok (.getfield 44, 3) := by decide +kernel
theorem dX8_explore_69 : decode cX8_explore 69 = .ok (.getfield 150, 3) := by decide +kernel
theorem dX8_explore_72 : decode cX8_explore 72 = .ok (.if_icmp .le 14, 3) := by decide +kernel
theorem dX8_explore_75 : decode cX8_explore 75 = .ok (.aload_n 0, 1) := by decide +kernel
theorem dX8_explore_76 : decode cX8_explore 76 = .ok (.getfield 44, 3) := by decide +kernel
theorem dX8_explore_79 : decode cX8_explore 79 = .ok (.aload_n 0, 1) := by decide +kernel
theorem dX8_explore_80 : decode cX8_explore 80 = .ok (.getfield 40, 3) := by decide +kernel
theorem dX8_explore_83 : decode cX8_explore 83 = .ok (.invokevirtual 271, 3) := by decide +kernel
theorem dX8_explore_86 : decode cX8_explore 86 = .ok (.iconst 0, 1) := by decide +kernel
theorem dX8_explore_87 : decode cX8_explore 87 = .ok (.istore 7, 2) := by decide +kernel
theorem dX8_explore_89 : decode cX8_explore 89 = .ok (.iload 7, 2) := by decide +kernel
theorem dX8_explore_91 : decode cX8_explore 91 = .ok (.aload_n 0, 1) := by decide +kernel
theorem dX8_explore_92 : decode cX8_explore 92 = .ok (.getfield 16, 3) := by decide +kernel
theorem dX8_explore_95 : decode cX8_explore 95 = .ok (.getfield 200, 3) := by decide +kernel
theorem dX8_explore_98 : decode cX8_explore 98 = .ok (.if_icmp .ge 51, 3) := by decide +kernel
theorem dX8_explore_101 : decode cX8_explore 101 = .ok (.iload_n 3, 1) := by decide +kernel
theorem dX8_explore_102 : decode cX8_explore 102 = .ok (.aload_n 0, 1) := by decide +kernel
theorem dX8_explore_103 : decode cX8_explore 103 = .ok (.aload_n 1, 1) := by decide +kernel
theorem dX8_explore_104 : decode cX8_explore 104 = .ok (.iload_n 2, 1) := by decide +kernel
theorem dX8_explore_105 : decode cX8_explore 105 = .ok (.iload 7, 2) := by decide +kernel
theorem dX8_explore_107 : decode cX8_explore 107 = .ok (.invokevirtual 275, 3) := by decide +kernel
theorem dX8_explore_110 : decode cX8_explore 110 = .ok (.iadd, 1) := by decide +kernel
theorem dX8_explore_111 : decode cX8_explore 111 = .ok (.istore 8, 2) := by decide +kernel
theorem dX8_explore_113 : decode cX8_explore 113 = .ok (.iload 8, 2) := by decide +kernel
theorem dX8_explore_115 : decode cX8_explore 115 = .ok (.iload 4, 2) := by decide +kernel
theorem dX8_explore_117 : decode cX8_explore 117 = .ok (.if_icmp .gt 26, 3) := by decide +kernel
theorem dX8_explore_120 : decode cX8_explore 120 = .ok (.aload_n 0, 1) := by decide +kernel
end
section
theorem dX8_explore_121 : decode cX8_explore 121 = .ok (.aload_n 1, 1) := by decide +kernel
theorem dX8_explore_122 : decode cX8_explore 122 = .ok (.iload 7, 2) := by decide +kernel
theorem dX8_explore_124 : decode cX8_explore 124 = .ok (.iload 8, 2) := by decide +kernel
theorem dX8_explore_126 : decode cX8_explore 126 = .ok (.invokevirtual 139, 3) := by decide +kernel
theorem dX8_explore_129 : decode cX8_explore 129 = .ok (.ifCond .eq 14, 3) := by decide +kernel
theorem dX8_explore_132 : decode cX8_explore 132 = .ok (.aload_n 0, 1) := by decide +kernel
theorem dX8_explore_133 : decode cX8_explore 133 = .ok (.aload_n 1, 1) := by decide +kernel
theorem dX8_explore_134 : decode cX8_explore 134 = .ok (.iload 7, 2) := by decide +kernel
theorem dX8_explore_136 : decode cX8_explore 136 = .ok (.iload 8, 2) := by decide +kernel
theorem dX8_explore_138 : decode cX8_explore 138 = .ok (.iload 4, 2) := by decide +kernel
theorem dX8_explore_140 : decode cX8_explore 140 = .ok (.invokevirtual 262, 3) := by decide +kernel
theorem dX8_explore_143 : decode cX8_explore 143 = .ok (.iinc 7 1, 3) := by decide +kernel
theorem dX8_explore_146 : decode cX8_explore 146 = .ok (.goto (-57), 3) := by decide +kernel
theorem dX8_explore_149 : decode cX8_explore 149 = .ok (.aload_n 0, 1) := by decide +kernel
theorem dX8_explore_150 : decode cX8_explore 150 = .ok (.getfield 40, 3) := by decide +kernel
theorem dX8_explore_153 : decode cX8_explore 153 = .ok (.iload 5, 2) := by decide +kernel
theorem dX8_explore_155 : decode cX8_explore 155 = .ok (.iload 6, 2) := by decide +kernel
theorem dX8_explore_157 : decode cX8_explore 157 = .ok (.invokevirtual 279, 3) := by decide +kernel
theorem dX8_explore_160 : decode cX8_explore 160 = .ok (.return_, 1) := by decide +kernel
theorem dX8_walkTold_0 : decode cX8_walkTold 0 = .ok (.aload_n 0, 1) := by decide +kernel
theorem dX8_walkTold_1 : decode cX8_walkTold 1 = .ok (.getfield 40, 3) := by decide +kernel
theorem dX8_walkTold_4 : decode cX8_walkTold 4 = .ok (.aload_n 1, 1) := by decide +kernel
theorem dX8_walkTold_5 : decode cX8_walkTold 5 = .ok (.getfield 124, 3) := by decide +kernel
theorem dX8_walkTold_8 : decode cX8_walkTold 8 = .ok (.invokevirtual 253, 3) := by decide +kernel
theorem dX8_walkTold_11 : decode cX8_walkTold 11 = .ok (.iconst 0, 1) := by decide +kernel
theorem dX8_walkTold_12 : decode cX8_walkTold 12 = .ok (.istore_n 3, 1) := by decide +kernel
theorem dX8_walkTold_13 : decode cX8_walkTold 13 = .ok (.iload_n 3, 1) := by decide +kernel
theorem dX8_walkTold_14 : decode cX8_walkTold 14 = .ok (.iload_n 2, 1) := by decide +kernel
theorem dX8_walkTold_15 : decode cX8_walkTold 15 = .ok (.if_icmp .ge 91, 3) := by decide +kernel
theorem dX8_walkTold_18 : decode cX8_walkTold 18 = .ok (.aload_n 0, 1) := by decide +kernel
theorem dX8_walkTold_19 : decode cX8_walkTold 19 = .ok (.getfield 61, 3) := by decide +kernel
theorem dX8_walkTold_22 : decode cX8_walkTold 22 = .ok (.iload_n 3, 1) := by decide +kernel
theorem dX8_walkTold_23 : decode cX8_walkTold 23 = .ok (.iaload, 1) := by decide +kernel
theorem dX8_walkTold_24 : decode cX8_walkTold 24 = .ok (.istore 4, 2) := by decide +kernel
theorem dX8_walkTold_26 : decode cX8_walkTold 26 = .ok (.aload_n 0, 1) := by decide +kernel
theorem dX8_walkTold_27 : decode cX8_walkTold 27 = .ok (.getfield 40, 3) := by decide +kernel
theorem dX8_walkTold_30 : decode cX8_walkTold 30 = .ok (.invokevirtual 266, 3) := by decide +kernel
theorem dX8_walkTold_33 : decode cX8_walkTold 33 = .ok (.ifCond .ne 30, 3) := by decide +kernel
theorem dX8_walkTold_36 : decode cX8_walkTold 36 = .ok (.aload_n 0, 1) := by decide +kernel
theorem dX8_walkTold_37 : decode cX8_walkTold 37 = .ok (.iload 4, 2) := by decide +kernel
theorem dX8_walkTold_39 : decode cX8_walkTold 39 = .ok (.invokevirtual 162, 3) := by decide +kernel
theorem dX8_walkTold_42 : decode cX8_walkTold 42 = .ok (.ifCond .eq 21, 3) := by decide +kernel
theorem dX8_walkTold_45 : decode cX8_walkTold 45 = .ok (.aload_n 0, 1) := by decide +kernel
theorem dX8_walkTold_46 : decode cX8_walkTold 46 = .ok (.aload_n 1, 1) := by decide +kernel
theorem dX8_walkTold_47 : decode cX8_walkTold 47 = .ok (.iload 4, 2) := by decide +kernel
theorem dX8_walkTold_49 : decode cX8_walkTold 49 = .ok (.invokestatic 178, 3) := by decide +kernel
theorem dX8_walkTold_52 : decode cX8_walkTold 52 = .ok (.iload 4, 2) := by decide +kernel
theorem dX8_walkTold_54 : decode cX8_walkTold 54 = .ok (.invokestatic 165, 3) := by decide +kernel
theorem dX8_walkTold_57 : decode cX8_walkTold 57 = .ok (.invokevirtual 283, 3) := by decide +kernel
theorem dX8_walkTold_60 : decode cX8_walkTold 60 = .ok (.ifCond .ne 5, 3) := by decide +kernel
theorem dX8_walkTold_63 : decode cX8_walkTold 63 = .ok (.iconst 0, 1) := by decide +kernel
theorem dX8_walkTold_64 : decode cX8_walkTold 64 = .ok (.ireturn, 1) := by decide +kernel
theorem dX8_walkTold_65 : decode cX8_walkTold 65 = .ok (.aload_n 0, 1) := by decide +kernel
theorem dX8_walkTold_66 : decode cX8_walkTold 66 = .ok (.getfield 40, 3) := by decide +kernel
theorem dX8_walkTold_69 : decode cX8_walkTold 69 = .ok (.aload_n 1, 1) := by decide +kernel
theorem dX8_walkTold_70 : decode cX8_walkTold 70 = .ok (.iload 4, 2) := by decide +kernel
theorem dX8_walkTold_72 : decode cX8_walkTold 72 = .ok (.invokestatic 178, 3) := by decide +kernel
theorem dX8_walkTold_75 : decode cX8_walkTold 75 = .ok (.iload 4, 2) := by decide +kernel
theorem dX8_walkTold_77 : decode cX8_walkTold 77 = .ok (.invokestatic 165, 3) := by decide +kernel
theorem dX8_walkTold_80 : decode cX8_walkTold 80 = .ok (.aload_n 0, 1) := by decide +kernel
theorem dX8_walkTold_81 : decode cX8_walkTold 81 = .ok (.getfield 16, 3) := by decide +kernel
theorem dX8_walkTold_84 : decode cX8_walkTold 84 = .ok (.iload 4, 2) := by decide +kernel
theorem dX8_walkTold_86 : decode cX8_walkTold 86 = .ok (.invokestatic 178, 3) := by decide +kernel
theorem dX8_walkTold_89 : decode cX8_walkTold 89 = .ok (.iload 4, 2) := by decide +kernel
theorem dX8_walkTold_91 : decode cX8_walkTold 91 = .ok (.invokestatic 165, 3) := by decide +kernel
theorem dX8_walkTold_94 : decode cX8_walkTold 94 = .ok (.invokevirtual 143, 3) := by decide +kernel
theorem dX8_walkTold_97 : decode cX8_walkTold 97 = .ok (.invokevirtual 267, 3) := by decide +kernel
theorem dX8_walkTold_100 : decode cX8_walkTold 100 = .ok (.iinc 3 1, 3) := by decide +kernel
theorem dX8_walkTold_103 : decode cX8_walkTold 103 = .ok (.goto (-90), 3) := by decide +kernel
theorem dX8_walkTold_106 : decode cX8_walkTold 106 = .ok (.iconst 1, 1) := by decide +kernel
theorem dX8_walkTold_107 : decode cX8_walkTold 107 = .ok (.ireturn, 1) := by decide +kernel
theorem dX8_goesOn_0 : decode cX8_goesOn 0 = .ok (.aload_n 0, 1) := by decide +kernel
theorem dX8_goesOn_1 : decode cX8_goesOn 1 = .ok (.aload_n 1, 1) := by decide +kernel
theorem dX8_goesOn_2 : decode cX8_goesOn 2 = .ok (.iload_n 2, 1) := by decide +kernel
theorem dX8_goesOn_3 : decode cX8_goesOn 3 = .ok (.iload_n 3, 1) := by decide +kernel
theorem dX8_goesOn_4 : decode cX8_goesOn 4 = .ok (.invokevirtual 139, 3) := by decide +kernel
theorem dX8_goesOn_7 : decode cX8_goesOn 7 = .ok (.ifCond .ne 5, 3) := by decide +kernel
theorem dX8_goesOn_10 : decode cX8_goesOn 10 = .ok (.iconst 0, 1) := by decide +kernel
theorem dX8_goesOn_11 : decode cX8_goesOn 11 = .ok (.ireturn, 1) := by decide +kernel
theorem dX8_goesOn_12 : decode cX8_goesOn 12 = .ok (.aload_n 0, 1) := by decide +kernel
theorem dX8_goesOn_13 : decode cX8_goesOn 13 = .ok (.getfield 40, 3) := by decide +kernel
theorem dX8_goesOn_16 : decode cX8_goesOn 16 = .ok (.getfield 270, 3) := by decide +kernel
theorem dX8_goesOn_19 : decode cX8_goesOn 19 = .ok (.iconst 1, 1) := by decide +kernel
theorem dX8_goesOn_20 : decode cX8_goesOn 20 = .ok (.isub, 1) := by decide +kernel
theorem dX8_goesOn_21 : decode cX8_goesOn 21 = .ok (.istore 4, 2) := by decide +kernel
theorem dX8_goesOn_23 : decode cX8_goesOn 23 = .ok (.iload 4, 2) := by decide +kernel
theorem dX8_goesOn_25 : decode cX8_goesOn 25 = .ok (.ifCond .lt 34, 3) := by decide +kernel
theorem dX8_goesOn_28 : decode cX8_goesOn 28 = .ok (.iload_n 3, 1) := by decide +kernel
theorem dX8_goesOn_29 : decode cX8_goesOn 29 = .ok (.aload_n 0, 1) := by decide +kernel
theorem dX8_goesOn_30 : decode cX8_goesOn 30 = .ok (.getfield 40, 3) := by decide +kernel
theorem dX8_goesOn_33 : decode cX8_goesOn 33 = .ok (.getfield 158, 3) := by decide +kernel
theorem dX8_goesOn_36 : decode cX8_goesOn 36 = .ok (.iload 4, 2) := by decide +kernel
theorem dX8_goesOn_38 : decode cX8_goesOn 38 = .ok (.iaload, 1) := by decide +kernel
theorem dX8_goesOn_39 : decode cX8_goesOn 39 = .ok (.aload_n 0, 1) := by decide +kernel
theorem dX8_goesOn_40 : decode cX8_goesOn 40 = .ok (.aload_n 1, 1) := by decide +kernel
theorem dX8_goesOn_41 : decode cX8_goesOn 41 = .ok (.aload_n 0, 1) := by decide +kernel
theorem dX8_goesOn_42 : decode cX8_goesOn 42 = .ok (.getfield 40, 3) := by decide +kernel
theorem dX8_goesOn_45 : decode cX8_goesOn 45 = .ok (.getfield 155, 3) := by decide +kernel
theorem dX8_goesOn_48 : decode cX8_goesOn 48 = .ok (.iload 4, 2) := by decide +kernel
theorem dX8_goesOn_50 : decode cX8_goesOn 50 = .ok (.iaload, 1) := by decide +kernel
theorem dX8_goesOn_51 : decode cX8_goesOn 51 = .ok (.iload_n 2, 1) := by decide +kernel
theorem dX8_goesOn_52 : decode cX8_goesOn 52 = .ok (.invokevirtual 275, 3) := by decide +kernel
theorem dX8_goesOn_55 : decode cX8_goesOn 55 = .ok (.iadd, 1) := by decide +kernel
theorem dX8_goesOn_56 : decode cX8_goesOn 56 = .ok (.if_icmp .ne 7, 3) := by decide +kernel
theorem dX8_goesOn_59 : decode cX8_goesOn 59 = .ok (.iconst 1, 1) := by decide +kernel
theorem dX8_goesOn_60 : decode cX8_goesOn 60 = .ok (.goto 4, 3) := by decide +kernel
theorem dX8_goesOn_63 : decode cX8_goesOn 63 = .ok (.iconst 0, 1) := by decide +kernel
theorem dX8_goesOn_64 : decode cX8_goesOn 64 = .ok (.ireturn, 1) := by decide +kernel
theorem dX8_faultOf_0 : decode cX8_faultOf 0 = .ok (.aload_n 0, 1) := by decide +kernel
theorem dX8_faultOf_1 : decode cX8_faultOf 1 = .ok (.aload_n 0, 1) := by decide +kernel
theorem dX8_faultOf_2 : decode cX8_faultOf 2 = .ok (.getfield 50, 3) := by decide +kernel
theorem dX8_faultOf_5 : decode cX8_faultOf 5 = .ok (.getfield 286, 3) := by decide +kernel
theorem dX8_faultOf_8 : decode cX8_faultOf 8 = .ok (.iload_n 1, 1) := by decide +kernel
theorem dX8_faultOf_9 : decode cX8_faultOf 9 = .ok (.iaload, 1) := by decide +kernel
theorem dX8_faultOf_10 : decode cX8_faultOf 10 = .ok (.invokevirtual 116, 3) := by decide +kernel
theorem dX8_faultOf_13 : decode cX8_faultOf 13 = .ok (.astore_n 2, 1) := by decide +kernel
theorem dX8_faultOf_14 : decode cX8_faultOf 14 = .ok (.aload_n 0, 1) := by decide +kernel
theorem dX8_faultOf_15 : decode cX8_faultOf 15 = .ok (.getfield 50, 3) := by decide +kernel
theorem dX8_faultOf_18 : decode cX8_faultOf 18 = .ok (.getfield 288, 3) := by decide +kernel
theorem dX8_faultOf_21 : decode cX8_faultOf 21 = .ok (.iload_n 1, 1) := by decide +kernel
theorem dX8_faultOf_22 : decode cX8_faultOf 22 = .ok (.iaload, 1) := by decide +kernel
theorem dX8_faultOf_23 : decode cX8_faultOf 23 = .ok (.istore_n 3, 1) := by decide +kernel
theorem dX8_faultOf_24 : decode cX8_faultOf 24 = .ok (.aload_n 2, 1) := by decide +kernel
theorem dX8_faultOf_25 : decode cX8_faultOf 25 = .ok (.ifnull 11, 3) := by decide +kernel
theorem dX8_faultOf_28 : decode cX8_faultOf 28 = .ok (.aload_n 2, 1) := by decide +kernel
theorem dX8_faultOf_29 : decode cX8_faultOf 29 = .ok (.iload_n 3, 1) := by decide +kernel
theorem dX8_faultOf_30 : decode cX8_faultOf 30 = .ok (.invokevirtual 237, 3) := by decide +kernel
theorem dX8_faultOf_33 : decode cX8_faultOf 33 = .ok (.ifCond .ne 5, 3) := by decide +kernel
theorem dX8_faultOf_36 : decode cX8_faultOf 36 = .ok (.iconst 1, 1) := by decide +kernel
theorem dX8_faultOf_37 : decode cX8_faultOf 37 = .ok (.ireturn, 1) := by decide +kernel
theorem dX8_faultOf_38 : decode cX8_faultOf 38 = .ok (.aload_n 0, 1) := by decide +kernel
theorem dX8_faultOf_39 : decode cX8_faultOf 39 = .ok (.iload_n 3, 1) := by decide +kernel
theorem dX8_faultOf_40 : decode cX8_faultOf 40 = .ok (.aload_n 0, 1) := by decide +kernel
theorem dX8_faultOf_41 : decode cX8_faultOf 41 = .ok (.getfield 50, 3) := by decide +kernel
theorem dX8_faultOf_44 : decode cX8_faultOf 44 = .ok (.getfield 175, 3) := by decide +kernel
theorem dX8_faultOf_47 : decode cX8_faultOf 47 = .ok (.iload_n 1, 1) := by decide +kernel
theorem dX8_faultOf_48 : decode cX8_faultOf 48 = .ok (.iaload, 1) := by decide +kernel
theorem dX8_faultOf_49 : decode cX8_faultOf 49 = .ok (.invokevirtual 240, 3) := by decide +kernel
theorem dX8_faultOf_52 : decode cX8_faultOf 52 = .ok (.ifCond .eq 5, 3) := by decide +kernel
theorem dX8_faultOf_55 : decode cX8_faultOf 55 = .ok (.iconst 2, 1) := by decide +kernel
theorem dX8_faultOf_56 : decode cX8_faultOf 56 = .ok (.ireturn, 1) := by decide +kernel
theorem dX8_faultOf_57 : decode cX8_faultOf 57 = .ok (.aload_n 0, 1) := by decide +kernel
theorem dX8_faultOf_58 : decode cX8_faultOf 58 = .ok (.getfield 50, 3) := by decide +kernel
theorem dX8_faultOf_61 : decode cX8_faultOf 61 = .ok (.getfield 289, 3) := by decide +kernel
theorem dX8_faultOf_64 : decode cX8_faultOf 64 = .ok (.iload_n 1, 1) := by decide +kernel
theorem dX8_faultOf_65 : decode cX8_faultOf 65 = .ok (.iaload, 1) := by decide +kernel
theorem dX8_faultOf_66 : decode cX8_faultOf 66 = .ok (.aload_n 0, 1) := by decide +kernel
theorem dX8_faultOf_67 : decode cX8_faultOf 67 = .ok (.getfield 23, 3) := by decide +kernel
theorem dX8_faultOf_70 : decode cX8_faultOf 70 = .ok (.getfield 136, 3) := by decide +kernel
theorem dX8_faultOf_73 : decode cX8_faultOf 73 = .ok (.if_icmp .le 5, 3) := by decide +kernel
theorem dX8_faultOf_76 : decode cX8_faultOf 76 = .ok (.iconst 3, 1) := by decide +kernel
theorem dX8_faultOf_77 : decode cX8_faultOf 77 = .ok (.ireturn, 1) := by decide +kernel
theorem dX8_faultOf_78 : decode cX8_faultOf 78 = .ok (.aload_n 0, 1) := by decide +kernel
theorem dX8_faultOf_79 : decode cX8_faultOf 79 = .ok (.aload_n 2, 1) := by decide +kernel
theorem dX8_faultOf_80 : decode cX8_faultOf 80 = .ok (.iload_n 1, 1) := by decide +kernel
theorem dX8_faultOf_81 : decode cX8_faultOf 81 = .ok (.invokevirtual 292, 3) := by decide +kernel
theorem dX8_faultOf_84 : decode cX8_faultOf 84 = .ok (.ifCond .eq 5, 3) := by decide +kernel
theorem dX8_faultOf_87 : decode cX8_faultOf 87 = .ok (.iconst 4, 1) := by decide +kernel
theorem dX8_faultOf_88 : decode cX8_faultOf 88 = .ok (.ireturn, 1) := by decide +kernel
theorem dX8_faultOf_89 : decode cX8_faultOf 89 = .ok (.aload_n 0, 1) := by decide +kernel
theorem dX8_faultOf_90 : decode cX8_faultOf 90 = .ok (.getfield 50, 3) := by decide +kernel
theorem dX8_faultOf_93 : decode cX8_faultOf 93 = .ok (.iload_n 1, 1) := by decide +kernel
theorem dX8_faultOf_94 : decode cX8_faultOf 94 = .ok (.invokevirtual 295, 3) := by decide +kernel
theorem dX8_faultOf_97 : decode cX8_faultOf 97 = .ok (.ifCond .eq 7, 3) := by decide +kernel
theorem dX8_faultOf_100 : decode cX8_faultOf 100 = .ok (.iconst 5, 1) := by decide +kernel
theorem dX8_faultOf_101 : decode cX8_faultOf 101 = .ok (.goto 4, 3) := by decide +kernel
theorem dX8_faultOf_104 : decode cX8_faultOf 104 = .ok (.iconst 0, 1) := by decide +kernel
theorem dX8_faultOf_105 : decode cX8_faultOf 105 = .ok (.ireturn, 1) := by decide +kernel
theorem dX8_isTooSoon_0 : decode cX8_isTooSoon 0 = .ok (.aload_n 0, 1) := by decide +kernel
theorem dX8_isTooSoon_1 : decode cX8_isTooSoon 1 = .ok (.getfield 50, 3) := by decide +kernel
theorem dX8_isTooSoon_4 : decode cX8_isTooSoon 4 = .ok (.aload_n 0, 1) := by decide +kernel
theorem dX8_isTooSoon_5 : decode cX8_isTooSoon 5 = .ok (.getfield 50, 3) := by decide +kernel
theorem dX8_isTooSoon_8 : decode cX8_isTooSoon 8 = .ok (.getfield 286, 3) := by decide +kernel
theorem dX8_isTooSoon_11 : decode cX8_isTooSoon 11 = .ok (.iload_n 2, 1) := by decide +kernel
theorem dX8_isTooSoon_12 : decode cX8_isTooSoon 12 = .ok (.iaload, 1) := by decide +kernel
theorem dX8_isTooSoon_13 : decode cX8_isTooSoon 13 = .ok (.iload_n 2, 1) := by decide +kernel
theorem dX8_isTooSoon_14 : decode cX8_isTooSoon 14 = .ok (.invokevirtual 171, 3) := by decide +kernel
theorem dX8_isTooSoon_17 : decode cX8_isTooSoon 17 = .ok (.istore_n 3, 1) := by decide +kernel
theorem dX8_isTooSoon_18 : decode cX8_isTooSoon 18 = .ok (.aload_n 0, 1) := by decide +kernel
theorem dX8_isTooSoon_19 : decode cX8_isTooSoon 19 = .ok (.getfield 50, 3) := by decide +kernel
theorem dX8_isTooSoon_22 : decode cX8_isTooSoon 22 = .ok (.iload_n 3, 1) := by decide +kernel
theorem dX8_isTooSoon_23 : decode cX8_isTooSoon 23 = .ok (.invokevirtual 174, 3) := by decide +kernel
theorem dX8_isTooSoon_26 : decode cX8_isTooSoon 26 = .ok (.ifCond .ne 5, 3) := by decide +kernel
theorem dX8_isTooSoon_29 : decode cX8_isTooSoon 29 = .ok (.iconst 0, 1) := by decide +kernel
theorem dX8_isTooSoon_30 : decode cX8_isTooSoon 30 = .ok (.ireturn, 1) := by decide +kernel
theorem dX8_isTooSoon_31 : decode cX8_isTooSoon 31 = .ok (.aload_n 0, 1) := by decide +kernel
theorem dX8_isTooSoon_32 : decode cX8_isTooSoon 32 = .ok (.aload_n 1, 1) := by decide +kernel
theorem dX8_isTooSoon_33 : decode cX8_isTooSoon 33 = .ok (.aload_n 0, 1) := by decide +kernel
theorem dX8_isTooSoon_34 : decode cX8_isTooSoon 34 = .ok (.getfield 50, 3) := by decide +kernel
theorem dX8_isTooSoon_37 : decode cX8_isTooSoon 37 = .ok (.getfield 288, 3) := by decide +kernel
theorem dX8_isTooSoon_40 : decode cX8_isTooSoon 40 = .ok (.iload_n 3, 1) := by decide +kernel
theorem dX8_isTooSoon_41 : decode cX8_isTooSoon 41 = .ok (.iaload, 1) := by decide +kernel
theorem dX8_isTooSoon_42 : decode cX8_isTooSoon 42 = .ok (.aload_n 0, 1) := by decide +kernel
theorem dX8_isTooSoon_43 : decode cX8_isTooSoon 43 = .ok (.getfield 50, 3) := by decide +kernel
theorem dX8_isTooSoon_46 : decode cX8_isTooSoon 46 = .ok (.getfield 288, 3) := by decide +kernel
theorem dX8_isTooSoon_49 : decode cX8_isTooSoon 49 = .ok (.iload_n 2, 1) := by decide +kernel
theorem dX8_isTooSoon_50 : decode cX8_isTooSoon 50 = .ok (.iaload, 1) := by decide +kernel
theorem dX8_isTooSoon_51 : decode cX8_isTooSoon 51 = .ok (.invokevirtual 275, 3) := by decide +kernel
theorem dX8_isTooSoon_54 : decode cX8_isTooSoon 54 = .ok (.istore 4, 2) := by decide +kernel
theorem dX8_isTooSoon_56 : decode cX8_isTooSoon 56 = .ok (.aload_n 0, 1) := by decide +kernel
theorem dX8_isTooSoon_57 : decode cX8_isTooSoon 57 = .ok (.getfield 50, 3) := by decide +kernel
theorem dX8_isTooSoon_60 : decode cX8_isTooSoon 60 = .ok (.getfield 175, 3) := by decide +kernel
theorem dX8_isTooSoon_63 : decode cX8_isTooSoon 63 = .ok (.iload_n 2, 1) := by decide +kernel
theorem dX8_isTooSoon_64 : decode cX8_isTooSoon 64 = .ok (.iaload, 1) := by decide +kernel
theorem dX8_isTooSoon_65 : decode cX8_isTooSoon 65 = .ok (.aload_n 0, 1) := by decide +kernel
theorem dX8_isTooSoon_66 : decode cX8_isTooSoon 66 = .ok (.getfield 50, 3) := by decide +kernel
theorem dX8_isTooSoon_69 : decode cX8_isTooSoon 69 = .ok (.getfield 175, 3) := by decide +kernel
theorem dX8_isTooSoon_72 : decode cX8_isTooSoon 72 = .ok (.iload_n 3, 1) := by decide +kernel
theorem dX8_isTooSoon_73 : decode cX8_isTooSoon 73 = .ok (.iaload, 1) := by decide +kernel
theorem dX8_isTooSoon_74 : decode cX8_isTooSoon 74 = .ok (.isub, 1) := by decide +kernel
theorem dX8_isTooSoon_75 : decode cX8_isTooSoon 75 = .ok (.iload 4, 2) := by decide +kernel
theorem dX8_isTooSoon_77 : decode cX8_isTooSoon 77 = .ok (.if_icmp .ge 7, 3) := by decide +kernel
theorem dX8_isTooSoon_80 : decode cX8_isTooSoon 80 = .ok (.iconst 1, 1) := by decide +kernel
theorem dX8_isTooSoon_81 : decode cX8_isTooSoon 81 = .ok (.goto 4, 3) := by decide +kernel
theorem dX8_isTooSoon_84 : decode cX8_isTooSoon 84 = .ok (.iconst 0, 1) := by decide +kernel
theorem dX8_isTooSoon_85 : decode cX8_isTooSoon 85 = .ok (.ireturn, 1) := by decide +kernel
theorem dX8_holderOf_0 : decode cX8_holderOf 0 = .ok (.iconst (-1), 1) := by decide +kernel
theorem dX8_holderOf_1 : decode cX8_holderOf 1 = .ok (.istore_n 2, 1) := by decide +kernel
theorem dX8_holderOf_2 : decode cX8_holderOf 2 = .ok (.iconst 0, 1) := by decide +kernel
theorem dX8_holderOf_3 : decode cX8_holderOf 3 = .ok (.istore_n 3, 1) := by decide +kernel
theorem dX8_holderOf_4 : decode cX8_holderOf 4 = .ok (.iconst 0, 1) := by decide +kernel
theorem dX8_holderOf_5 : decode cX8_holderOf 5 = .ok (.istore 4, 2) := by decide +kernel
theorem dX8_holderOf_7 : decode cX8_holderOf 7 = .ok (.iload 4, 2) := by decide +kernel
theorem dX8_holderOf_9 : decode cX8_holderOf 9 = .ok (.aload_n 0, 1) := by decide +kernel
theorem dX8_holderOf_10 : decode cX8_holderOf 10 = .ok (.getfield 33, 3) := by decide +kernel
theorem dX8_holderOf_13 : decode cX8_holderOf 13 = .ok (.if_icmp .ge 33, 3) := by decide +kernel
theorem dX8_holderOf_16 : decode cX8_holderOf 16 = .ok (.aload_n 0, 1) := by decide +kernel
theorem dX8_holderOf_17 : decode cX8_holderOf 17 = .ok (.getfield 50, 3) := by decide +kernel
theorem dX8_holderOf_20 : decode cX8_holderOf 20 = .ok (.iload 4, 2) := by decide +kernel
theorem dX8_holderOf_22 : decode cX8_holderOf 22 = .ok (.iload_n 1, 1) := by decide +kernel
theorem dX8_holderOf_23 : decode cX8_holderOf 23 = .ok (.invokevirtual 298, 3) := by decide +kernel
theorem dX8_holderOf_26 : decode cX8_holderOf 26 = .ok (.istore 5, 2) := by decide +kernel
theorem dX8_holderOf_28 : decode cX8_holderOf 28 = .ok (.iload 5, 2) := by decide +kernel
theorem dX8_holderOf_30 : decode cX8_holderOf 30 = .ok (.iload_n 3, 1) := by decide +kernel
theorem dX8_holderOf_31 : decode cX8_holderOf 31 = .ok (.if_icmp .le 9, 3) := by decide +kernel
theorem dX8_holderOf_34 : decode cX8_holderOf 34 = .ok (.iload 5, 2) := by decide +kernel
theorem dX8_holderOf_36 : decode cX8_holderOf 36 = .ok (.istore_n 3, 1) := by decide +kernel
theorem dX8_holderOf_37 : decode cX8_holderOf 37 = .ok (.iload 4, 2) := by decide +kernel
theorem dX8_holderOf_39 : decode cX8_holderOf 39 = .ok (.istore_n 2, 1) := by decide +kernel
theorem dX8_holderOf_40 : decode cX8_holderOf 40 = .ok (.iinc 4 1, 3) := by decide +kernel
theorem dX8_holderOf_43 : decode cX8_holderOf 43 = .ok (.goto (-36), 3) := by decide +kernel
theorem dX8_holderOf_46 : decode cX8_holderOf 46 = .ok (.iload_n 2, 1) := by decide +kernel
theorem dX8_holderOf_47 : decode cX8_holderOf 47 = .ok (.ireturn, 1) := by decide +kernel
theorem dX8_shareOf_0 : decode cX8_shareOf 0 = .ok (.aload_n 0, 1) := by decide +kernel
theorem dX8_shareOf_1 : decode cX8_shareOf 1 = .ok (.getfield 16, 3) := by decide +kernel
theorem dX8_shareOf_4 : decode cX8_shareOf 4 = .ok (.iload_n 2, 1) := by decide +kernel
theorem dX8_shareOf_5 : decode cX8_shareOf 5 = .ok (.iload 5, 2) := by decide +kernel
theorem dX8_shareOf_7 : decode cX8_shareOf 7 = .ok (.invokevirtual 143, 3) := by decide +kernel
theorem dX8_shareOf_10 : decode cX8_shareOf 10 = .ok (.istore 6, 2) := by decide +kernel
theorem dX8_shareOf_12 : decode cX8_shareOf 12 = .ok (.iload_n 2, 1) := by decide +kernel
theorem dX8_shareOf_13 : decode cX8_shareOf 13 = .ok (.iload 4, 2) := by decide +kernel
theorem dX8_shareOf_15 : decode cX8_shareOf 15 = .ok (.if_icmp .eq 6, 3) := by decide +kernel
theorem dX8_shareOf_18 : decode cX8_shareOf 18 = .ok (.iload 6, 2) := by decide +kernel
theorem dX8_shareOf_20 : decode cX8_shareOf 20 = .ok (.ireturn, 1) := by decide +kernel
theorem dX8_shareOf_21 : decode cX8_shareOf 21 = .ok (.aload_n 0, 1) := by decide +kernel
theorem dX8_shareOf_22 : decode cX8_shareOf 22 = .ok (.iload_n 2, 1) := by decide +kernel
theorem dX8_shareOf_23 : decode cX8_shareOf 23 = .ok (.invokevirtual 187, 3) := by decide +kernel
theorem dX8_shareOf_26 : decode cX8_shareOf 26 = .ok (.istore 7, 2) := by decide +kernel
theorem dX8_shareOf_28 : decode cX8_shareOf 28 = .ok (.iload 7, 2) := by decide +kernel
theorem dX8_shareOf_30 : decode cX8_shareOf 30 = .ok (.iload_n 1, 1) := by decide +kernel
theorem dX8_shareOf_31 : decode cX8_shareOf 31 = .ok (.if_icmp .ne 10, 3) := by decide +kernel
theorem dX8_shareOf_34 : decode cX8_shareOf 34 = .ok (.iload 6, 2) := by decide +kernel
theorem dX8_shareOf_36 : decode cX8_shareOf 36 = .ok (.iconst 2, 1) := by decide +kernel
theorem dX8_shareOf_37 : decode cX8_shareOf 37 = .ok (.imul, 1) := by decide +kernel
theorem dX8_shareOf_38 : decode cX8_shareOf 38 = .ok (.iconst 3, 1) := by decide +kernel
theorem dX8_shareOf_39 : decode cX8_shareOf 39 = .ok (.idiv, 1) := by decide +kernel
theorem dX8_shareOf_40 : decode cX8_shareOf 40 = .ok (.ireturn, 1) := by decide +kernel
theorem dX8_shareOf_41 : decode cX8_shareOf 41 = .ok (.iload 7, 2) := by decide +kernel
theorem dX8_shareOf_43 : decode cX8_shareOf 43 = .ok (.iload_n 3, 1) := by decide +kernel
theorem dX8_shareOf_44 : decode cX8_shareOf 44 = .ok (.if_icmp .ne 10, 3) := by decide +kernel
theorem dX8_shareOf_47 : decode cX8_shareOf 47 = .ok (.iload 6, 2) := by decide +kernel
theorem dX8_shareOf_49 : decode cX8_shareOf 49 = .ok (.iconst 3, 1) := by decide +kernel
theorem dX8_shareOf_50 : decode cX8_shareOf 50 = .ok (.idiv, 1) := by decide +kernel
theorem dX8_shareOf_51 : decode cX8_shareOf 51 = .ok (.goto 7, 3) := by decide +kernel
theorem dX8_shareOf_54 : decode cX8_shareOf 54 = .ok (.iload 6, 2) := by decide +kernel
theorem dX8_shareOf_56 : decode cX8_shareOf 56 = .ok (.iconst 2, 1) := by decide +kernel
theorem dX8_shareOf_57 : decode cX8_shareOf 57 = .ok (.idiv, 1) := by decide +kernel
theorem dX8_shareOf_58 : decode cX8_shareOf 58 = .ok (.ireturn, 1) := by decide +kernel
theorem dX8_isBalance_0 : decode cX8_isBalance 0 = .ok (.aload_n 0, 1) := by decide +kernel
theorem dX8_isBalance_1 : decode cX8_isBalance 1 = .ok (.iload_n 1, 1) := by decide +kernel
theorem dX8_isBalance_2 : decode cX8_isBalance 2 = .ok (.iload_n 2, 1) := by decide +kernel
theorem dX8_isBalance_3 : decode cX8_isBalance 3 = .ok (.iload_n 3, 1) := by decide +kernel
theorem dX8_isBalance_4 : decode cX8_isBalance 4 = .ok (.iload 4, 2) := by decide +kernel
theorem dX8_isBalance_6 : decode cX8_isBalance 6 = .ok (.iload 5, 2) := by decide +kernel
theorem dX8_isBalance_8 : decode cX8_isBalance 8 = .ok (.invokevirtual 301, 3) := by decide +kernel
theorem dX8_isBalance_11 : decode cX8_isBalance 11 = .ok (.ifCond .eq 21, 3) := by decide +kernel
theorem dX8_isBalance_14 : decode cX8_isBalance 14 = .ok (.aload_n 0, 1) := by decide +kernel
theorem dX8_isBalance_15 : decode cX8_isBalance 15 = .ok (.iload_n 3, 1) := by decide +kernel
theorem dX8_isBalance_16 : decode cX8_isBalance 16 = .ok (.iload 4, 2) := by decide +kernel
theorem dX8_isBalance_18 : decode cX8_isBalance 18 = .ok (.iload_n 1, 1) := by decide +kernel
theorem dX8_isBalance_19 : decode cX8_isBalance 19 = .ok (.iload_n 2, 1) := by decide +kernel
theorem dX8_isBalance_20 : decode cX8_isBalance 20 = .ok (.iload 5, 2) := by decide +kernel
theorem dX8_isBalance_22 : decode cX8_isBalance 22 = .ok (.invokevirtual 301, 3) := by decide +kernel
theorem dX8_isBalance_25 : decode cX8_isBalance 25 = .ok (.ifCond .eq 7, 3) := by decide +kernel
theorem dX8_isBalance_28 : decode cX8_isBalance 28 = .ok (.iconst 1, 1) := by decide +kernel
theorem dX8_isBalance_29 : decode cX8_isBalance 29 = .ok (.goto 4, 3) := by decide +kernel
theorem dX8_isBalance_32 : decode cX8_isBalance 32 = .ok (.iconst 0, 1) := by decide +kernel
theorem dX8_isBalance_33 : decode cX8_isBalance 33 = .ok (.ireturn, 1) := by decide +kernel
theorem dX8_isContent_0 : decode cX8_isContent 0 = .ok (.aload_n 0, 1) := by decide +kernel
theorem dX8_isContent_1 : decode cX8_isContent 1 = .ok (.iload_n 1, 1) := by decide +kernel
theorem dX8_isContent_2 : decode cX8_isContent 2 = .ok (.invokevirtual 116, 3) := by decide +kernel
theorem dX8_isContent_5 : decode cX8_isContent 5 = .ok (.astore 6, 2) := by decide +kernel
theorem dX8_isContent_7 : decode cX8_isContent 7 = .ok (.aload 6, 2) := by decide +kernel
theorem dX8_isContent_9 : decode cX8_isContent 9 = .ok (.ifnull 15, 3) := by decide +kernel
theorem dX8_isContent_12 : decode cX8_isContent 12 = .ok (.aload_n 0, 1) := by decide +kernel
theorem dX8_isContent_13 : decode cX8_isContent 13 = .ok (.aload 6, 2) := by decide +kernel
theorem dX8_isContent_15 : decode cX8_isContent 15 = .ok (.iload_n 2, 1) := by decide +kernel
theorem dX8_isContent_16 : decode cX8_isContent 16 = .ok (.iload 5, 2) := by decide +kernel
theorem dX8_isContent_18 : decode cX8_isContent 18 = .ok (.invokevirtual 139, 3) := by decide +kernel
theorem dX8_isContent_21 : decode cX8_isContent 21 = .ok (.ifCond .ne 5, 3) := by decide +kernel
theorem dX8_isContent_24 : decode cX8_isContent 24 = .ok (.iconst 0, 1) := by decide +kernel
theorem dX8_isContent_25 : decode cX8_isContent 25 = .ok (.ireturn, 1) := by decide +kernel
theorem dX8_isContent_26 : decode cX8_isContent 26 = .ok (.aload_n 0, 1) := by decide +kernel
theorem dX8_isContent_27 : decode cX8_isContent 27 = .ok (.iload_n 1, 1) := by decide +kernel
theorem dX8_isContent_28 : decode cX8_isContent 28 = .ok (.iload_n 2, 1) := by decide +kernel
theorem dX8_isContent_29 : decode cX8_isContent 29 = .ok (.iload_n 3, 1) := by decide +kernel
theorem dX8_isContent_30 : decode cX8_isContent 30 = .ok (.iload 4, 2) := by decide +kernel
theorem dX8_isContent_32 : decode cX8_isContent 32 = .ok (.iload 5, 2) := by decide +kernel
theorem dX8_isContent_34 : decode cX8_isContent 34 = .ok (.invokevirtual 193, 3) := by decide +kernel
theorem dX8_isContent_37 : decode cX8_isContent 37 = .ok (.istore 7, 2) := by decide +kernel
theorem dX8_isContent_39 : decode cX8_isContent 39 = .ok (.iconst 0, 1) := by decide +kernel
theorem dX8_isContent_40 : decode cX8_isContent 40 = .ok (.istore 8, 2) := by decide +kernel
theorem dX8_isContent_42 : decode cX8_isContent 42 = .ok (.iload 8, 2) := by decide +kernel
theorem dX8_isContent_44 : decode cX8_isContent 44 = .ok (.aload_n 0, 1) := by decide +kernel
theorem dX8_isContent_45 : decode cX8_isContent 45 = .ok (.getfield 16, 3) := by decide +kernel
theorem dX8_isContent_48 : decode cX8_isContent 48 = .ok (.getfield 200, 3) := by decide +kernel
theorem dX8_isContent_51 : decode cX8_isContent 51 = .ok (.if_icmp .ge 41, 3) := by decide +kernel
theorem dX8_isContent_54 : decode cX8_isContent 54 = .ok (.aload_n 0, 1) := by decide +kernel
theorem dX8_isContent_55 : decode cX8_isContent 55 = .ok (.aload 6, 2) := by decide +kernel
theorem dX8_isContent_57 : decode cX8_isContent 57 = .ok (.iload 8, 2) := by decide +kernel
theorem dX8_isContent_59 : decode cX8_isContent 59 = .ok (.iload 5, 2) := by decide +kernel
theorem dX8_isContent_61 : decode cX8_isContent 61 = .ok (.invokevirtual 139, 3) := by decide +kernel
theorem dX8_isContent_64 : decode cX8_isContent 64 = .ok (.ifCond .eq 22, 3) := by decide +kernel
theorem dX8_isContent_67 : decode cX8_isContent 67 = .ok (.aload_n 0, 1) := by decide +kernel
theorem dX8_isContent_68 : decode cX8_isContent 68 = .ok (.iload_n 1, 1) := by decide +kernel
theorem dX8_isContent_69 : decode cX8_isContent 69 = .ok (.iload 8, 2) := by decide +kernel
theorem dX8_isContent_71 : decode cX8_isContent 71 = .ok (.iload_n 3, 1) := by decide +kernel
theorem dX8_isContent_72 : decode cX8_isContent 72 = .ok (.iload 4, 2) := by decide +kernel
theorem dX8_isContent_74 : decode cX8_isContent 74 = .ok (.iload 5, 2) := by decide +kernel
theorem dX8_isContent_76 : decode cX8_isContent 76 = .ok (.invokevirtual 193, 3) := by decide +kernel
theorem dX8_isContent_79 : decode cX8_isContent 79 = .ok (.iload 7, 2) := by decide +kernel
theorem dX8_isContent_81 : decode cX8_isContent 81 = .ok (.if_icmp .le 5, 3) := by decide +kernel
theorem dX8_isContent_84 : decode cX8_isContent 84 = .ok (.iconst 0, 1) := by decide +kernel
theorem dX8_isContent_85 : decode cX8_isContent 85 = .ok (.ireturn, 1) := by decide +kernel
theorem dX8_isContent_86 : decode cX8_isContent 86 = .ok (.iinc 8 1, 3) := by decide +kernel
theorem dX8_isContent_89 : decode cX8_isContent 89 = .ok (.goto (-47), 3) := by decide +kernel
theorem dX8_isContent_92 : decode cX8_isContent 92 = .ok (.iconst 1, 1) := by decide +kernel
theorem dX8_isContent_93 : decode cX8_isContent 93 = .ok (.ireturn, 1) := by decide +kernel
theorem dX9_init_0 : decode cX9_init 0 = .ok (.aload_n 0, 1) := by decide +kernel
theorem dX9_init_1 : decode cX9_init 1 = .ok (.invokespecial 1, 3) := by decide +kernel
theorem dX9_init_4 : decode cX9_init 4 = .ok (.aload_n 0, 1) := by decide +kernel
theorem dX9_init_5 : decode cX9_init 5 = .ok (.iconst 2, 1) := by decide +kernel
theorem dX9_init_6 : decode cX9_init 6 = .ok (.putfield 7, 3) := by decide +kernel
theorem dX9_init_9 : decode cX9_init 9 = .ok (.aload_n 0, 1) := by decide +kernel
theorem dX9_init_10 : decode cX9_init 10 = .ok (.iconst 1, 1) := by decide +kernel
theorem dX9_init_11 : decode cX9_init 11 = .ok (.putfield 13, 3) := by decide +kernel
theorem dX9_init_14 : decode cX9_init 14 = .ok (.aload_n 0, 1) := by decide +kernel
theorem dX9_init_15 : decode cX9_init 15 = .ok (.bipush 12, 2) := by decide +kernel
theorem dX9_init_17 : decode cX9_init 17 = .ok (.putfield 16, 3) := by decide +kernel
theorem dX9_init_20 : decode cX9_init 20 = .ok (.aload_n 0, 1) := by decide +kernel
theorem dX9_init_21 : decode cX9_init 21 = .ok (.bipush 14, 2) := by decide +kernel
theorem dX9_init_23 : decode cX9_init 23 = .ok (.putfield 19, 3) := by decide +kernel
theorem dX9_init_26 : decode cX9_init 26 = .ok (.aload_n 0, 1) := by decide +kernel
theorem dX9_init_27 : decode cX9_init 27 = .ok (.bipush 6, 2) := by decide +kernel
theorem dX9_init_29 : decode cX9_init 29 = .ok (.newarray .int, 2) := by decide +kernel
theorem dX9_init_31 : decode cX9_init 31 = .ok (.putfield 22, 3) := by decide +kernel
theorem dX9_init_34 : decode cX9_init 34 = .ok (.aload_n 0, 1) := by decide +kernel
theorem dX9_init_35 : decode cX9_init 35 = .ok (.bipush 36, 2) := by decide +kernel
theorem dX9_init_37 : decode cX9_init 37 = .ok (.newarray .int, 2) := by decide +kernel
theorem dX9_init_39 : decode cX9_init 39 = .ok (.putfield 26, 3) := by decide +kernel
theorem dX9_init_42 : decode cX9_init 42 = .ok (.aload_n 0, 1) := by decide +kernel
theorem dX9_init_43 : decode cX9_init 43 = .ok (.bipush 72, 2) := by decide +kernel
theorem dX9_init_45 : decode cX9_init 45 = .ok (.newarray .int, 2) := by decide +kernel
theorem dX9_init_47 : decode cX9_init 47 = .ok (.putfield 29, 3) := by decide +kernel
theorem dX9_init_50 : decode cX9_init 50 = .ok (.aload_n 0, 1) := by decide +kernel
theorem dX9_init_51 : decode cX9_init 51 = .ok (.iconst 4, 1) := by decide +kernel
theorem dX9_init_52 : decode cX9_init 52 = .ok (.newarray .int, 2) := by decide +kernel
theorem dX9_init_54 : decode cX9_init 54 = .ok (.putfield 32, 3) := by decide +kernel
theorem dX9_init_57 : decode cX9_init 57 = .ok (.aload_n 0, 1) := by decide +kernel
theorem dX9_init_58 : decode cX9_init 58 = .ok (.iconst 4, 1) := by decide +kernel
theorem dX9_init_59 : decode cX9_init 59 = .ok (.newarray .int, 2) := by decide +kernel
theorem dX9_init_61 : decode cX9_init 61 = .ok (.putfield 35, 3) := by decide +kernel
theorem dX9_init_64 : decode cX9_init 64 = .ok (.aload_n 0, 1) := by decide +kernel
theorem dX9_init_65 : decode cX9_init 65 = .ok (.iconst 4, 1) := by decide +kernel
theorem dX9_init_66 : decode cX9_init 66 = .ok (.newarray .int, 2) := by decide +kernel
theorem dX9_init_68 : decode cX9_init 68 = .ok (.putfield 38, 3) := by decide +kernel
theorem dX9_init_71 : decode cX9_init 71 = .ok (.aload_n 0, 1) := by decide +kernel
theorem dX9_init_72 : decode cX9_init 72 = .ok (.bipush 24, 2) := by decide +kernel
theorem dX9_init_74 : decode cX9_init 74 = .ok (.newarray .int, 2) := by decide +kernel
theorem dX9_init_76 : decode cX9_init 76 = .ok (.putfield 41, 3) := by decide +kernel
theorem dX9_init_79 : decode cX9_init 79 = .ok (.aload_n 0, 1) := by decide +kernel
theorem dX9_init_80 : decode cX9_init 80 = .ok (.bipush 24, 2) := by decide +kernel
theorem dX9_init_82 : decode cX9_init 82 = .ok (.newarray .int, 2) := by decide +kernel
theorem dX9_init_84 : decode cX9_init 84 = .ok (.putfield 44, 3) := by decide +kernel
theorem dX9_init_87 : decode cX9_init 87 = .ok (.aload_n 0, 1) := by decide +kernel
theorem dX9_init_88 : decode cX9_init 88 = .ok (.bipush 24, 2) := by decide +kernel
theorem dX9_init_90 : decode cX9_init 90 = .ok (.newarray .int, 2) := by decide +kernel
theorem dX9_init_92 : decode cX9_init 92 = .ok (.putfield 47, 3) := by decide +kernel
theorem dX9_init_95 : decode cX9_init 95 = .ok (.aload_n 0, 1) := by decide +kernel
theorem dX9_init_96 : decode cX9_init 96 = .ok (.bipush 24, 2) := by decide +kernel
theorem dX9_init_98 : decode cX9_init 98 = .ok (.newarray .int, 2) := by decide +kernel
theorem dX9_init_100 : decode cX9_init 100 = .ok (.putfield 50, 3) := by decide +kernel
theorem dX9_init_103 : decode cX9_init 103 = .ok (.aload_n 0, 1) := by decide +kernel
theorem dX9_init_104 : decode cX9_init 104 = .ok (.bipush 12, 2) := by decide +kernel
theorem dX9_init_106 : decode cX9_init 106 = .ok (.newarray .int, 2) := by decide +kernel
theorem dX9_init_108 : decode cX9_init 108 = .ok (.putfield 53, 3) := by decide +kernel
theorem dX9_init_111 : decode cX9_init 111 = .ok (.aload_n 0, 1) := by decide +kernel
theorem dX9_init_112 : decode cX9_init 112 = .ok (.bipush 12, 2) := by decide +kernel
theorem dX9_init_114 : decode cX9_init 114 = .ok (.newarray .int, 2) := by decide +kernel
theorem dX9_init_116 : decode cX9_init 116 = .ok (.putfield 56, 3) := by decide +kernel
theorem dX9_init_119 : decode cX9_init 119 = .ok (.aload_n 0, 1) := by decide +kernel
theorem dX9_init_120 : decode cX9_init 120 = .ok (.bipush 12, 2) := by decide +kernel
theorem dX9_init_122 : decode cX9_init 122 = .ok (.newarray .int, 2) := by decide +kernel
theorem dX9_init_124 : decode cX9_init 124 = .ok (.putfield 59, 3) := by decide +kernel
theorem dX9_init_127 : decode cX9_init 127 = .ok (.aload_n 0, 1) := by decide +kernel
theorem dX9_init_128 : decode cX9_init 128 = .ok (.bipush 12, 2) := by decide +kernel
theorem dX9_init_130 : decode cX9_init 130 = .ok (.newarray .int, 2) := by decide +kernel
theorem dX9_init_132 : decode cX9_init 132 = .ok (.putfield 62, 3) := by decide +kernel
theorem dX9_init_135 : decode cX9_init 135 = .ok (.aload_n 0, 1) := by decide +kernel
theorem dX9_init_136 : decode cX9_init 136 = .ok (.bipush 6, 2) := by decide +kernel
theorem dX9_init_138 : decode cX9_init 138 = .ok (.newarray .int, 2) := by decide +kernel
theorem dX9_init_140 : decode cX9_init 140 = .ok (.putfield 65, 3) := by decide +kernel
theorem dX9_init_143 : decode cX9_init 143 = .ok (.aload_n 0, 1) := by decide +kernel
theorem dX9_init_144 : decode cX9_init 144 = .ok (.bipush 12, 2) := by decide +kernel
theorem dX9_init_146 : decode cX9_init 146 = .ok (.newarray .int, 2) := by decide +kernel
theorem dX9_init_148 : decode cX9_init 148 = .ok (.putfield 68, 3) := by decide +kernel
theorem dX9_init_151 : decode cX9_init 151 = .ok (.aload_n 0, 1) := by decide +kernel
theorem dX9_init_152 : decode cX9_init 152 = .ok (.bipush 12, 2) := by decide +kernel
theorem dX9_init_154 : decode cX9_init 154 = .ok (.newarray .int, 2) := by decide +kernel
theorem dX9_init_156 : decode cX9_init 156 = .ok (.putfield 71, 3) := by decide +kernel
theorem dX9_init_159 : decode cX9_init 159 = .ok (.aload_n 0, 1) := by decide +kernel
theorem dX9_init_160 : decode cX9_init 160 = .ok (.bipush 12, 2) := by decide +kernel
theorem dX9_init_162 : decode cX9_init 162 = .ok (.newarray .int, 2) := by decide +kernel
theorem dX9_init_164 : decode cX9_init 164 = .ok (.putfield 74, 3) := by decide +kernel
theorem dX9_init_167 : decode cX9_init 167 = .ok (.aload_n 0, 1) := by decide +kernel
theorem dX9_init_168 : decode cX9_init 168 = .ok (.bipush 12, 2) := by decide +kernel
theorem dX9_init_170 : decode cX9_init 170 = .ok (.newarray .int, 2) := by decide +kernel
theorem dX9_init_172 : decode cX9_init 172 = .ok (.putfield 77, 3) := by decide +kernel
theorem dX9_init_175 : decode cX9_init 175 = .ok (.aload_n 0, 1) := by decide +kernel
theorem dX9_init_176 : decode cX9_init 176 = .ok (.bipush 12, 2) := by decide +kernel
theorem dX9_init_178 : decode cX9_init 178 = .ok (.newarray .int, 2) := by decide +kernel
theorem dX9_init_180 : decode cX9_init 180 = .ok (.putfield 80, 3) := by decide +kernel
theorem dX9_init_183 : decode cX9_init 183 = .ok (.aload_n 0, 1) := by decide +kernel
theorem dX9_init_184 : decode cX9_init 184 = .ok (.bipush 6, 2) := by decide +kernel
theorem dX9_init_186 : decode cX9_init 186 = .ok (.newarray .int, 2) := by decide +kernel
theorem dX9_init_188 : decode cX9_init 188 = .ok (.putfield 83, 3) := by decide +kernel
theorem dX9_init_191 : decode cX9_init 191 = .ok (.aload_n 0, 1) := by decide +kernel
theorem dX9_init_192 : decode cX9_init 192 = .ok (.bipush 6, 2) := by decide +kernel
theorem dX9_init_194 : decode cX9_init 194 = .ok (.newarray .int, 2) := by decide +kernel
theorem dX9_init_196 : decode cX9_init 196 = .ok (.putfield 86, 3) := by decide +kernel
theorem dX9_init_199 : decode cX9_init 199 = .ok (.return_, 1) := by decide +kernel
theorem dX9_in_0 : decode cX9_in 0 = .ok (.iload_n 0, 1) := by decide +kernel
theorem dX9_in_1 : decode cX9_in 1 = .ok (.iload_n 1, 1) := by decide +kernel
theorem dX9_in_2 : decode cX9_in 2 = .ok (.if_icmp .lt 12, 3) := by decide +kernel
theorem dX9_in_5 : decode cX9_in 5 = .ok (.iload_n 0, 1) := by decide +kernel
theorem dX9_in_6 : decode cX9_in 6 = .ok (.iload_n 2, 1) := by decide +kernel
theorem dX9_in_7 : decode cX9_in 7 = .ok (.if_icmp .gt 7, 3) := by decide +kernel
theorem dX9_in_10 : decode cX9_in 10 = .ok (.iconst 1, 1) := by decide +kernel
theorem dX9_in_11 : decode cX9_in 11 = .ok (.goto 4, 3) := by decide +kernel
theorem dX9_in_14 : decode cX9_in 14 = .ok (.iconst 0, 1) := by decide +kernel
theorem dX9_in_15 : decode cX9_in 15 = .ok (.ireturn, 1) := by decide +kernel
theorem dX9_finds_0 : decode cX9_finds 0 = .ok (.aload_n 0, 1) := by decide +kernel
theorem dX9_finds_1 : decode cX9_finds 1 = .ok (.getfield 65, 3) := by decide +kernel
theorem dX9_finds_4 : decode cX9_finds 4 = .ok (.iload_n 1, 1) := by decide +kernel
theorem dX9_finds_5 : decode cX9_finds 5 = .ok (.dup2, 1) := by decide +kernel
theorem dX9_finds_6 : decode cX9_finds 6 = .ok (.iaload, 1) := by decide +kernel
theorem dX9_finds_7 : decode cX9_finds 7 = .ok (.iconst 1, 1) := by decide +kernel
theorem dX9_finds_8 : decode cX9_finds 8 = .ok (.iadd, 1) := by decide +kernel
theorem dX9_finds_9 : decode cX9_finds 9 = .ok (.iastore, 1) := by decide +kernel
theorem dX9_finds_10 : decode cX9_finds 10 = .ok (.ldc 89, 2) := by decide +kernel
theorem dX9_finds_12 : decode cX9_finds 12 = .ok (.iload_n 1, 1) := by decide +kernel
theorem dX9_finds_13 : decode cX9_finds 13 = .ok (.isub, 1) := by decide +kernel
theorem dX9_finds_14 : decode cX9_finds 14 = .ok (.ireturn, 1) := by decide +kernel
theorem dX9_isStreet_0 : decode cX9_isStreet 0 = .ok (.iload_n 1, 1) := by decide +kernel
theorem dX9_isStreet_1 : decode cX9_isStreet 1 = .ok (.iconst 0, 1) := by decide +kernel
theorem dX9_isStreet_2 : decode cX9_isStreet 2 = .ok (.aload_n 0, 1) := by decide +kernel
theorem dX9_isStreet_3 : decode cX9_isStreet 3 = .ok (.getfield 90, 3) := by decide +kernel
theorem dX9_isStreet_6 : decode cX9_isStreet 6 = .ok (.iconst 1, 1) := by decide +kernel
theorem dX9_isStreet_7 : decode cX9_isStreet 7 = .ok (.isub, 1) := by decide +kernel
theorem dX9_isStreet_8 : decode cX9_isStreet 8 = .ok (.invokestatic 93, 3) := by decide +kernel
end
section
theorem dX9_isStreet_11 : decode cX9_isStreet 11 = .ok (.ireturn, 1) := by decide +kernel
theorem dX9_isVan_0 : decode cX9_isVan 0 = .ok (.iload_n 1, 1) := by decide +kernel
theorem dX9_isVan_1 : decode cX9_isVan 1 = .ok (.iconst 0, 1) := by decide +kernel
theorem dX9_isVan_2 : decode cX9_isVan 2 = .ok (.aload_n 0, 1) := by decide +kernel
theorem dX9_isVan_3 : decode cX9_isVan 3 = .ok (.getfield 97, 3) := by decide +kernel
theorem dX9_isVan_6 : decode cX9_isVan 6 = .ok (.iconst 1, 1) := by decide +kernel
theorem dX9_isVan_7 : decode cX9_isVan 7 = .ok (.isub, 1) := by decide +kernel
theorem dX9_isVan_8 : decode cX9_isVan 8 = .ok (.invokestatic 93, 3) := by decide +kernel
theorem dX9_isVan_11 : decode cX9_isVan 11 = .ok (.ireturn, 1) := by decide +kernel
theorem dX9_isHour_0 : decode cX9_isHour 0 = .ok (.iload_n 0, 1) := by decide +kernel
theorem dX9_isHour_1 : decode cX9_isHour 1 = .ok (.iconst 0, 1) := by decide +kernel
theorem dX9_isHour_2 : decode cX9_isHour 2 = .ok (.bipush 11, 2) := by decide +kernel
theorem dX9_isHour_4 : decode cX9_isHour 4 = .ok (.invokestatic 93, 3) := by decide +kernel
theorem dX9_isHour_7 : decode cX9_isHour 7 = .ok (.ireturn, 1) := by decide +kernel
theorem dX9_isAt_0 : decode cX9_isAt 0 = .ok (.iload_n 1, 1) := by decide +kernel
theorem dX9_isAt_1 : decode cX9_isAt 1 = .ok (.ifCond .lt 28, 3) := by decide +kernel
theorem dX9_isAt_4 : decode cX9_isAt 4 = .ok (.aload_n 0, 1) := by decide +kernel
theorem dX9_isAt_5 : decode cX9_isAt 5 = .ok (.iload_n 1, 1) := by decide +kernel
theorem dX9_isAt_6 : decode cX9_isAt 6 = .ok (.bipush 100, 2) := by decide +kernel
theorem dX9_isAt_8 : decode cX9_isAt 8 = .ok (.idiv, 1) := by decide +kernel
theorem dX9_isAt_9 : decode cX9_isAt 9 = .ok (.invokevirtual 100, 3) := by decide +kernel
theorem dX9_isAt_12 : decode cX9_isAt 12 = .ok (.ifCond .eq 17, 3) := by decide +kernel
theorem dX9_isAt_15 : decode cX9_isAt 15 = .ok (.iload_n 1, 1) := by decide +kernel
theorem dX9_isAt_16 : decode cX9_isAt 16 = .ok (.bipush 100, 2) := by decide +kernel
theorem dX9_isAt_18 : decode cX9_isAt 18 = .ok (.irem, 1) := by decide +kernel
theorem dX9_isAt_19 : decode cX9_isAt 19 = .ok (.invokestatic 104, 3) := by decide +kernel
theorem dX9_isAt_22 : decode cX9_isAt 22 = .ok (.ifCond .eq 7, 3) := by decide +kernel
theorem dX9_isAt_25 : decode cX9_isAt 25 = .ok (.iconst 1, 1) := by decide +kernel
theorem dX9_isAt_26 : decode cX9_isAt 26 = .ok (.goto 4, 3) := by decide +kernel
theorem dX9_isAt_29 : decode cX9_isAt 29 = .ok (.iconst 0, 1) := by decide +kernel
theorem dX9_isAt_30 : decode cX9_isAt 30 = .ok (.ireturn, 1) := by decide +kernel
theorem dX9_street_0 : decode cX9_street 0 = .ok (.iload_n 1, 1) := by decide +kernel
theorem dX9_street_1 : decode cX9_street 1 = .ok (.iconst 0, 1) := by decide +kernel
theorem dX9_street_2 : decode cX9_street 2 = .ok (.iconst 1, 1) := by decide +kernel
theorem dX9_street_3 : decode cX9_street 3 = .ok (.invokestatic 93, 3) := by decide +kernel
theorem dX9_street_6 : decode cX9_street 6 = .ok (.ifCond .ne 9, 3) := by decide +kernel
theorem dX9_street_9 : decode cX9_street 9 = .ok (.aload_n 0, 1) := by decide +kernel
theorem dX9_street_10 : decode cX9_street 10 = .ok (.iconst 1, 1) := by decide +kernel
theorem dX9_street_11 : decode cX9_street 11 = .ok (.invokevirtual 107, 3) := by decide +kernel
theorem dX9_street_14 : decode cX9_street 14 = .ok (.ireturn, 1) := by decide +kernel
theorem dX9_street_15 : decode cX9_street 15 = .ok (.aload_n 0, 1) := by decide +kernel
theorem dX9_street_16 : decode cX9_street 16 = .ok (.getfield 90, 3) := by decide +kernel
theorem dX9_street_19 : decode cX9_street 19 = .ok (.bipush 6, 2) := by decide +kernel
theorem dX9_street_21 : decode cX9_street 21 = .ok (.if_icmp .ne 9, 3) := by decide +kernel
theorem dX9_street_24 : decode cX9_street 24 = .ok (.aload_n 0, 1) := by decide +kernel
theorem dX9_street_25 : decode cX9_street 25 = .ok (.iconst 4, 1) := by decide +kernel
theorem dX9_street_26 : decode cX9_street 26 = .ok (.invokevirtual 107, 3) := by decide +kernel
theorem dX9_street_29 : decode cX9_street 29 = .ok (.ireturn, 1) := by decide +kernel
theorem dX9_street_30 : decode cX9_street 30 = .ok (.aload_n 0, 1) := by decide +kernel
theorem dX9_street_31 : decode cX9_street 31 = .ok (.getfield 22, 3) := by decide +kernel
theorem dX9_street_34 : decode cX9_street 34 = .ok (.aload_n 0, 1) := by decide +kernel
theorem dX9_street_35 : decode cX9_street 35 = .ok (.getfield 90, 3) := by decide +kernel
theorem dX9_street_38 : decode cX9_street 38 = .ok (.iload_n 1, 1) := by decide +kernel
theorem dX9_street_39 : decode cX9_street 39 = .ok (.iastore, 1) := by decide +kernel
theorem dX9_street_40 : decode cX9_street 40 = .ok (.aload_n 0, 1) := by decide +kernel
theorem dX9_street_41 : decode cX9_street 41 = .ok (.dup, 1) := by decide +kernel
theorem dX9_street_42 : decode cX9_street 42 = .ok (.getfield 90, 3) := by decide +kernel
theorem dX9_street_45 : decode cX9_street 45 = .ok (.iconst 1, 1) := by decide +kernel
theorem dX9_street_46 : decode cX9_street 46 = .ok (.iadd, 1) := by decide +kernel
theorem dX9_street_47 : decode cX9_street 47 = .ok (.putfield 90, 3) := by decide +kernel
theorem dX9_street_50 : decode cX9_street 50 = .ok (.aload_n 0, 1) := by decide +kernel
theorem dX9_street_51 : decode cX9_street 51 = .ok (.getfield 90, 3) := by decide +kernel
theorem dX9_street_54 : decode cX9_street 54 = .ok (.iconst 1, 1) := by decide +kernel
theorem dX9_street_55 : decode cX9_street 55 = .ok (.isub, 1) := by decide +kernel
theorem dX9_street_56 : decode cX9_street 56 = .ok (.ireturn, 1) := by decide +kernel
theorem dX9_way_0 : decode cX9_way 0 = .ok (.aload_n 0, 1) := by decide +kernel
theorem dX9_way_1 : decode cX9_way 1 = .ok (.iload_n 1, 1) := by decide +kernel
theorem dX9_way_2 : decode cX9_way 2 = .ok (.invokevirtual 100, 3) := by decide +kernel
theorem dX9_way_5 : decode cX9_way 5 = .ok (.ifCond .eq 25, 3) := by decide +kernel
theorem dX9_way_8 : decode cX9_way 8 = .ok (.aload_n 0, 1) := by decide +kernel
theorem dX9_way_9 : decode cX9_way 9 = .ok (.iload_n 2, 1) := by decide +kernel
theorem dX9_way_10 : decode cX9_way 10 = .ok (.invokevirtual 100, 3) := by decide +kernel
theorem dX9_way_13 : decode cX9_way 13 = .ok (.ifCond .eq 17, 3) := by decide +kernel
theorem dX9_way_16 : decode cX9_way 16 = .ok (.iload_n 1, 1) := by decide +kernel
theorem dX9_way_17 : decode cX9_way 17 = .ok (.iload_n 2, 1) := by decide +kernel
theorem dX9_way_18 : decode cX9_way 18 = .ok (.if_icmp .eq 12, 3) := by decide +kernel
theorem dX9_way_21 : decode cX9_way 21 = .ok (.iload_n 3, 1) := by decide +kernel
theorem dX9_way_22 : decode cX9_way 22 = .ok (.iconst 0, 1) := by decide +kernel
theorem dX9_way_23 : decode cX9_way 23 = .ok (.iconst 3, 1) := by decide +kernel
theorem dX9_way_24 : decode cX9_way 24 = .ok (.invokestatic 93, 3) := by decide +kernel
theorem dX9_way_27 : decode cX9_way 27 = .ok (.ifCond .ne 9, 3) := by decide +kernel
theorem dX9_way_30 : decode cX9_way 30 = .ok (.aload_n 0, 1) := by decide +kernel
theorem dX9_way_31 : decode cX9_way 31 = .ok (.iconst 1, 1) := by decide +kernel
theorem dX9_way_32 : decode cX9_way 32 = .ok (.invokevirtual 107, 3) := by decide +kernel
theorem dX9_way_35 : decode cX9_way 35 = .ok (.ireturn, 1) := by decide +kernel
theorem dX9_way_36 : decode cX9_way 36 = .ok (.aload_n 0, 1) := by decide +kernel
theorem dX9_way_37 : decode cX9_way 37 = .ok (.getfield 26, 3) := by decide +kernel
theorem dX9_way_40 : decode cX9_way 40 = .ok (.bipush 6, 2) := by decide +kernel
theorem dX9_way_42 : decode cX9_way 42 = .ok (.iload_n 1, 1) := by decide +kernel
theorem dX9_way_43 : decode cX9_way 43 = .ok (.imul, 1) := by decide +kernel
theorem dX9_way_44 : decode cX9_way 44 = .ok (.iload_n 2, 1) := by decide +kernel
theorem dX9_way_45 : decode cX9_way 45 = .ok (.iadd, 1) := by decide +kernel
theorem dX9_way_46 : decode cX9_way 46 = .ok (.iaload, 1) := by decide +kernel
theorem dX9_way_47 : decode cX9_way 47 = .ok (.istore 4, 2) := by decide +kernel
theorem dX9_way_49 : decode cX9_way 49 = .ok (.aload_n 0, 1) := by decide +kernel
theorem dX9_way_50 : decode cX9_way 50 = .ok (.getfield 26, 3) := by decide +kernel
theorem dX9_way_53 : decode cX9_way 53 = .ok (.bipush 6, 2) := by decide +kernel
theorem dX9_way_55 : decode cX9_way 55 = .ok (.iload_n 1, 1) := by decide +kernel
theorem dX9_way_56 : decode cX9_way 56 = .ok (.imul, 1) := by decide +kernel
theorem dX9_way_57 : decode cX9_way 57 = .ok (.iload_n 2, 1) := by decide +kernel
theorem dX9_way_58 : decode cX9_way 58 = .ok (.iadd, 1) := by decide +kernel
theorem dX9_way_59 : decode cX9_way 59 = .ok (.iload_n 3, 1) := by decide +kernel
theorem dX9_way_60 : decode cX9_way 60 = .ok (.iastore, 1) := by decide +kernel
theorem dX9_way_61 : decode cX9_way 61 = .ok (.aload_n 0, 1) := by decide +kernel
theorem dX9_way_62 : decode cX9_way 62 = .ok (.getfield 26, 3) := by decide +kernel
theorem dX9_way_65 : decode cX9_way 65 = .ok (.bipush 6, 2) := by decide +kernel
theorem dX9_way_67 : decode cX9_way 67 = .ok (.iload_n 2, 1) := by decide +kernel
theorem dX9_way_68 : decode cX9_way 68 = .ok (.imul, 1) := by decide +kernel
theorem dX9_way_69 : decode cX9_way 69 = .ok (.iload_n 1, 1) := by decide +kernel
theorem dX9_way_70 : decode cX9_way 70 = .ok (.iadd, 1) := by decide +kernel
theorem dX9_way_71 : decode cX9_way 71 = .ok (.iload_n 3, 1) := by decide +kernel
theorem dX9_way_72 : decode cX9_way 72 = .ok (.iastore, 1) := by decide +kernel
theorem dX9_way_73 : decode cX9_way 73 = .ok (.iload 4, 2) := by decide +kernel
theorem dX9_way_75 : decode cX9_way 75 = .ok (.ireturn, 1) := by decide +kernel
theorem dX9_wish_0 : decode cX9_wish 0 = .ok (.aload_n 0, 1) := by decide +kernel
theorem dX9_wish_1 : decode cX9_wish 1 = .ok (.iload_n 1, 1) := by decide +kernel
theorem dX9_wish_2 : decode cX9_wish 2 = .ok (.invokevirtual 100, 3) := by decide +kernel
theorem dX9_wish_5 : decode cX9_wish 5 = .ok (.ifCond .eq 21, 3) := by decide +kernel
theorem dX9_wish_8 : decode cX9_wish 8 = .ok (.iload_n 2, 1) := by decide +kernel
theorem dX9_wish_9 : decode cX9_wish 9 = .ok (.invokestatic 104, 3) := by decide +kernel
theorem dX9_wish_12 : decode cX9_wish 12 = .ok (.ifCond .eq 14, 3) := by decide +kernel
theorem dX9_wish_15 : decode cX9_wish 15 = .ok (.iload_n 3, 1) := by decide +kernel
theorem dX9_wish_16 : decode cX9_wish 16 = .ok (.iconst 0, 1) := by decide +kernel
theorem dX9_wish_17 : decode cX9_wish 17 = .ok (.sipush 200, 3) := by decide +kernel
theorem dX9_wish_20 : decode cX9_wish 20 = .ok (.invokestatic 93, 3) := by decide +kernel
theorem dX9_wish_23 : decode cX9_wish 23 = .ok (.ifCond .ne 9, 3) := by decide +kernel
theorem dX9_wish_26 : decode cX9_wish 26 = .ok (.aload_n 0, 1) := by decide +kernel
theorem dX9_wish_27 : decode cX9_wish 27 = .ok (.iconst 1, 1) := by decide +kernel
theorem dX9_wish_28 : decode cX9_wish 28 = .ok (.invokevirtual 107, 3) := by decide +kernel
theorem dX9_wish_31 : decode cX9_wish 31 = .ok (.ireturn, 1) := by decide +kernel
theorem dX9_wish_32 : decode cX9_wish 32 = .ok (.aload_n 0, 1) := by decide +kernel
theorem dX9_wish_33 : decode cX9_wish 33 = .ok (.getfield 29, 3) := by decide +kernel
theorem dX9_wish_36 : decode cX9_wish 36 = .ok (.bipush 12, 2) := by decide +kernel
theorem dX9_wish_38 : decode cX9_wish 38 = .ok (.iload_n 1, 1) := by decide +kernel
theorem dX9_wish_39 : decode cX9_wish 39 = .ok (.imul, 1) := by decide +kernel
theorem dX9_wish_40 : decode cX9_wish 40 = .ok (.iload_n 2, 1) := by decide +kernel
theorem dX9_wish_41 : decode cX9_wish 41 = .ok (.iadd, 1) := by decide +kernel
theorem dX9_wish_42 : decode cX9_wish 42 = .ok (.iaload, 1) := by decide +kernel
theorem dX9_wish_43 : decode cX9_wish 43 = .ok (.istore 4, 2) := by decide +kernel
theorem dX9_wish_45 : decode cX9_wish 45 = .ok (.aload_n 0, 1) := by decide +kernel
theorem dX9_wish_46 : decode cX9_wish 46 = .ok (.getfield 29, 3) := by decide +kernel
theorem dX9_wish_49 : decode cX9_wish 49 = .ok (.bipush 12, 2) := by decide +kernel
theorem dX9_wish_51 : decode cX9_wish 51 = .ok (.iload_n 1, 1) := by decide +kernel
theorem dX9_wish_52 : decode cX9_wish 52 = .ok (.imul, 1) := by decide +kernel
theorem dX9_wish_53 : decode cX9_wish 53 = .ok (.iload_n 2, 1) := by decide +kernel
theorem dX9_wish_54 : decode cX9_wish 54 = .ok (.iadd, 1) := by decide +kernel
theorem dX9_wish_55 : decode cX9_wish 55 = .ok (.iload_n 3, 1) := by decide +kernel
theorem dX9_wish_56 : decode cX9_wish 56 = .ok (.iastore, 1) := by decide +kernel
theorem dX9_wish_57 : decode cX9_wish 57 = .ok (.iload 4, 2) := by decide +kernel
theorem dX9_wish_59 : decode cX9_wish 59 = .ok (.ireturn, 1) := by decide +kernel
theorem dX9_heat_0 : decode cX9_heat 0 = .ok (.iload_n 1, 1) := by decide +kernel
theorem dX9_heat_1 : decode cX9_heat 1 = .ok (.iconst 0, 1) := by decide +kernel
theorem dX9_heat_2 : decode cX9_heat 2 = .ok (.iconst 4, 1) := by decide +kernel
theorem dX9_heat_3 : decode cX9_heat 3 = .ok (.invokestatic 93, 3) := by decide +kernel
theorem dX9_heat_6 : decode cX9_heat 6 = .ok (.ifCond .ne 9, 3) := by decide +kernel
theorem dX9_heat_9 : decode cX9_heat 9 = .ok (.aload_n 0, 1) := by decide +kernel
theorem dX9_heat_10 : decode cX9_heat 10 = .ok (.iconst 1, 1) := by decide +kernel
theorem dX9_heat_11 : decode cX9_heat 11 = .ok (.invokevirtual 107, 3) := by decide +kernel
theorem dX9_heat_14 : decode cX9_heat 14 = .ok (.ireturn, 1) := by decide +kernel
theorem dX9_heat_15 : decode cX9_heat 15 = .ok (.aload_n 0, 1) := by decide +kernel
theorem dX9_heat_16 : decode cX9_heat 16 = .ok (.getfield 7, 3) := by decide +kernel
theorem dX9_heat_19 : decode cX9_heat 19 = .ok (.istore_n 2, 1) := by decide +kernel
theorem dX9_heat_20 : decode cX9_heat 20 = .ok (.aload_n 0, 1) := by decide +kernel
theorem dX9_heat_21 : decode cX9_heat 21 = .ok (.iload_n 1, 1) := by decide +kernel
theorem dX9_heat_22 : decode cX9_heat 22 = .ok (.putfield 7, 3) := by decide +kernel
theorem dX9_heat_25 : decode cX9_heat 25 = .ok (.iload_n 2, 1) := by decide +kernel
theorem dX9_heat_26 : decode cX9_heat 26 = .ok (.ireturn, 1) := by decide +kernel
theorem dX9_van_0 : decode cX9_van 0 = .ok (.iload_n 1, 1) := by decide +kernel
theorem dX9_van_1 : decode cX9_van 1 = .ok (.iconst 0, 1) := by decide +kernel
theorem dX9_van_2 : decode cX9_van 2 = .ok (.iconst 2, 1) := by decide +kernel
theorem dX9_van_3 : decode cX9_van 3 = .ok (.invokestatic 93, 3) := by decide +kernel
theorem dX9_van_6 : decode cX9_van 6 = .ok (.ifCond .ne 9, 3) := by decide +kernel
theorem dX9_van_9 : decode cX9_van 9 = .ok (.aload_n 0, 1) := by decide +kernel
theorem dX9_van_10 : decode cX9_van 10 = .ok (.iconst 1, 1) := by decide +kernel
theorem dX9_van_11 : decode cX9_van 11 = .ok (.invokevirtual 107, 3) := by decide +kernel
theorem dX9_van_14 : decode cX9_van 14 = .ok (.ireturn, 1) := by decide +kernel
theorem dX9_van_15 : decode cX9_van 15 = .ok (.aload_n 0, 1) := by decide +kernel
theorem dX9_van_16 : decode cX9_van 16 = .ok (.getfield 97, 3) := by decide +kernel
theorem dX9_van_19 : decode cX9_van 19 = .ok (.iconst 4, 1) := by decide +kernel
theorem dX9_van_20 : decode cX9_van 20 = .ok (.if_icmp .ne 9, 3) := by decide +kernel
theorem dX9_van_23 : decode cX9_van 23 = .ok (.aload_n 0, 1) := by decide +kernel
theorem dX9_van_24 : decode cX9_van 24 = .ok (.iconst 4, 1) := by decide +kernel
theorem dX9_van_25 : decode cX9_van 25 = .ok (.invokevirtual 107, 3) := by decide +kernel
theorem dX9_van_28 : decode cX9_van 28 = .ok (.ireturn, 1) := by decide +kernel
theorem dX9_van_29 : decode cX9_van 29 = .ok (.aload_n 0, 1) := by decide +kernel
theorem dX9_van_30 : decode cX9_van 30 = .ok (.getfield 32, 3) := by decide +kernel
theorem dX9_van_33 : decode cX9_van 33 = .ok (.aload_n 0, 1) := by decide +kernel
theorem dX9_van_34 : decode cX9_van 34 = .ok (.getfield 97, 3) := by decide +kernel
theorem dX9_van_37 : decode cX9_van 37 = .ok (.iload_n 1, 1) := by decide +kernel
theorem dX9_van_38 : decode cX9_van 38 = .ok (.iastore, 1) := by decide +kernel
theorem dX9_van_39 : decode cX9_van 39 = .ok (.aload_n 0, 1) := by decide +kernel
theorem dX9_van_40 : decode cX9_van 40 = .ok (.getfield 35, 3) := by decide +kernel
theorem dX9_van_43 : decode cX9_van 43 = .ok (.aload_n 0, 1) := by decide +kernel
theorem dX9_van_44 : decode cX9_van 44 = .ok (.getfield 97, 3) := by decide +kernel
theorem dX9_van_47 : decode cX9_van 47 = .ok (.iconst 0, 1) := by decide +kernel
theorem dX9_van_48 : decode cX9_van 48 = .ok (.iastore, 1) := by decide +kernel
theorem dX9_van_49 : decode cX9_van 49 = .ok (.aload_n 0, 1) := by decide +kernel
theorem dX9_van_50 : decode cX9_van 50 = .ok (.getfield 38, 3) := by decide +kernel
theorem dX9_van_53 : decode cX9_van 53 = .ok (.aload_n 0, 1) := by decide +kernel
theorem dX9_van_54 : decode cX9_van 54 = .ok (.getfield 97, 3) := by decide +kernel
theorem dX9_van_57 : decode cX9_van 57 = .ok (.bipush 63, 2) := by decide +kernel
theorem dX9_van_59 : decode cX9_van 59 = .ok (.iastore, 1) := by decide +kernel
theorem dX9_van_60 : decode cX9_van 60 = .ok (.aload_n 0, 1) := by decide +kernel
theorem dX9_van_61 : decode cX9_van 61 = .ok (.dup, 1) := by decide +kernel
theorem dX9_van_62 : decode cX9_van 62 = .ok (.getfield 97, 3) := by decide +kernel
theorem dX9_van_65 : decode cX9_van 65 = .ok (.iconst 1, 1) := by decide +kernel
theorem dX9_van_66 : decode cX9_van 66 = .ok (.iadd, 1) := by decide +kernel
theorem dX9_van_67 : decode cX9_van 67 = .ok (.putfield 97, 3) := by decide +kernel
theorem dX9_van_70 : decode cX9_van 70 = .ok (.aload_n 0, 1) := by decide +kernel
theorem dX9_van_71 : decode cX9_van 71 = .ok (.getfield 97, 3) := by decide +kernel
theorem dX9_van_74 : decode cX9_van 74 = .ok (.iconst 1, 1) := by decide +kernel
theorem dX9_van_75 : decode cX9_van 75 = .ok (.isub, 1) := by decide +kernel
theorem dX9_van_76 : decode cX9_van 76 = .ok (.ireturn, 1) := by decide +kernel
theorem dX9_as_0 : decode cX9_as 0 = .ok (.aload_n 0, 1) := by decide +kernel
theorem dX9_as_1 : decode cX9_as 1 = .ok (.iload_n 1, 1) := by decide +kernel
theorem dX9_as_2 : decode cX9_as 2 = .ok (.invokevirtual 111, 3) := by decide +kernel
theorem dX9_as_5 : decode cX9_as 5 = .ok (.ifCond .eq 12, 3) := by decide +kernel
theorem dX9_as_8 : decode cX9_as 8 = .ok (.iload_n 2, 1) := by decide +kernel
theorem dX9_as_9 : decode cX9_as 9 = .ok (.iconst 0, 1) := by decide +kernel
theorem dX9_as_10 : decode cX9_as 10 = .ok (.iconst 2, 1) := by decide +kernel
theorem dX9_as_11 : decode cX9_as 11 = .ok (.invokestatic 93, 3) := by decide +kernel
theorem dX9_as_14 : decode cX9_as 14 = .ok (.ifCond .ne 9, 3) := by decide +kernel
theorem dX9_as_17 : decode cX9_as 17 = .ok (.aload_n 0, 1) := by decide +kernel
theorem dX9_as_18 : decode cX9_as 18 = .ok (.iconst 1, 1) := by decide +kernel
theorem dX9_as_19 : decode cX9_as 19 = .ok (.invokevirtual 107, 3) := by decide +kernel
theorem dX9_as_22 : decode cX9_as 22 = .ok (.ireturn, 1) := by decide +kernel
theorem dX9_as_23 : decode cX9_as 23 = .ok (.iload_n 2, 1) := by decide +kernel
theorem dX9_as_24 : decode cX9_as 24 = .ok (.ifCond .eq 13, 3) := by decide +kernel
theorem dX9_as_27 : decode cX9_as 27 = .ok (.aload_n 0, 1) := by decide +kernel
theorem dX9_as_28 : decode cX9_as 28 = .ok (.getfield 32, 3) := by decide +kernel
theorem dX9_as_31 : decode cX9_as 31 = .ok (.iload_n 1, 1) := by decide +kernel
theorem dX9_as_32 : decode cX9_as 32 = .ok (.iaload, 1) := by decide +kernel
theorem dX9_as_33 : decode cX9_as 33 = .ok (.iload_n 2, 1) := by decide +kernel
theorem dX9_as_34 : decode cX9_as 34 = .ok (.if_icmp .ne 12, 3) := by decide +kernel
theorem dX9_as_37 : decode cX9_as 37 = .ok (.aload_n 0, 1) := by decide +kernel
theorem dX9_as_38 : decode cX9_as 38 = .ok (.getfield 35, 3) := by decide +kernel
theorem dX9_as_41 : decode cX9_as 41 = .ok (.iload_n 1, 1) := by decide +kernel
theorem dX9_as_42 : decode cX9_as 42 = .ok (.iaload, 1) := by decide +kernel
theorem dX9_as_43 : decode cX9_as 43 = .ok (.goto 8, 3) := by decide +kernel
theorem dX9_as_46 : decode cX9_as 46 = .ok (.aload_n 0, 1) := by decide +kernel
theorem dX9_as_47 : decode cX9_as 47 = .ok (.iconst 5, 1) := by decide +kernel
theorem dX9_as_48 : decode cX9_as 48 = .ok (.invokevirtual 107, 3) := by decide +kernel
theorem dX9_as_51 : decode cX9_as 51 = .ok (.ireturn, 1) := by decide +kernel
theorem dX9_stock_0 : decode cX9_stock 0 = .ok (.aload_n 0, 1) := by decide +kernel
theorem dX9_stock_1 : decode cX9_stock 1 = .ok (.iload_n 1, 1) := by decide +kernel
theorem dX9_stock_2 : decode cX9_stock 2 = .ok (.invokevirtual 111, 3) := by decide +kernel
theorem dX9_stock_5 : decode cX9_stock 5 = .ok (.ifCond .eq 14, 3) := by decide +kernel
theorem dX9_stock_8 : decode cX9_stock 8 = .ok (.iload_n 2, 1) := by decide +kernel
theorem dX9_stock_9 : decode cX9_stock 9 = .ok (.iconst 0, 1) := by decide +kernel
theorem dX9_stock_10 : decode cX9_stock 10 = .ok (.sipush 2000, 3) := by decide +kernel
theorem dX9_stock_13 : decode cX9_stock 13 = .ok (.invokestatic 93, 3) := by decide +kernel
theorem dX9_stock_16 : decode cX9_stock 16 = .ok (.ifCond .ne 9, 3) := by decide +kernel
theorem dX9_stock_19 : decode cX9_stock 19 = .ok (.aload_n 0, 1) := by decide +kernel
theorem dX9_stock_20 : decode cX9_stock 20 = .ok (.iconst 1, 1) := by decide +kernel
theorem dX9_stock_21 : decode cX9_stock 21 = .ok (.invokevirtual 107, 3) := by decide +kernel
theorem dX9_stock_24 : decode cX9_stock 24 = .ok (.ireturn, 1) := by decide +kernel
theorem dX9_stock_25 : decode cX9_stock 25 = .ok (.aload_n 0, 1) := by decide +kernel
theorem dX9_stock_26 : decode cX9_stock 26 = .ok (.getfield 35, 3) := by decide +kernel
theorem dX9_stock_29 : decode cX9_stock 29 = .ok (.iload_n 1, 1) := by decide +kernel
theorem dX9_stock_30 : decode cX9_stock 30 = .ok (.iaload, 1) := by decide +kernel
theorem dX9_stock_31 : decode cX9_stock 31 = .ok (.istore_n 3, 1) := by decide +kernel
theorem dX9_stock_32 : decode cX9_stock 32 = .ok (.aload_n 0, 1) := by decide +kernel
theorem dX9_stock_33 : decode cX9_stock 33 = .ok (.getfield 35, 3) := by decide +kernel
theorem dX9_stock_36 : decode cX9_stock 36 = .ok (.iload_n 1, 1) := by decide +kernel
theorem dX9_stock_37 : decode cX9_stock 37 = .ok (.iload_n 2, 1) := by decide +kernel
theorem dX9_stock_38 : decode cX9_stock 38 = .ok (.iastore, 1) := by decide +kernel
theorem dX9_stock_39 : decode cX9_stock 39 = .ok (.iload_n 3, 1) := by decide +kernel
theorem dX9_stock_40 : decode cX9_stock 40 = .ok (.ireturn, 1) := by decide +kernel
theorem dX9_licence_0 : decode cX9_licence 0 = .ok (.aload_n 0, 1) := by decide +kernel
theorem dX9_licence_1 : decode cX9_licence 1 = .ok (.iload_n 1, 1) := by decide +kernel
theorem dX9_licence_2 : decode cX9_licence 2 = .ok (.invokevirtual 111, 3) := by decide +kernel
theorem dX9_licence_5 : decode cX9_licence 5 = .ok (.ifCond .eq 13, 3) := by decide +kernel
theorem dX9_licence_8 : decode cX9_licence 8 = .ok (.iload_n 2, 1) := by decide +kernel
theorem dX9_licence_9 : decode cX9_licence 9 = .ok (.iconst 0, 1) := by decide +kernel
theorem dX9_licence_10 : decode cX9_licence 10 = .ok (.bipush 63, 2) := by decide +kernel
theorem dX9_licence_12 : decode cX9_licence 12 = .ok (.invokestatic 93, 3) := by decide +kernel
theorem dX9_licence_15 : decode cX9_licence 15 = .ok (.ifCond .ne 9, 3) := by decide +kernel
theorem dX9_licence_18 : decode cX9_licence 18 = .ok (.aload_n 0, 1) := by decide +kernel
theorem dX9_licence_19 : decode cX9_licence 19 = .ok (.iconst 1, 1) := by decide +kernel
theorem dX9_licence_20 : decode cX9_licence 20 = .ok (.invokevirtual 107, 3) := by decide +kernel
theorem dX9_licence_23 : decode cX9_licence 23 = .ok (.ireturn, 1) := by decide +kernel
theorem dX9_licence_24 : decode cX9_licence 24 = .ok (.aload_n 0, 1) := by decide +kernel
theorem dX9_licence_25 : decode cX9_licence 25 = .ok (.getfield 38, 3) := by decide +kernel
theorem dX9_licence_28 : decode cX9_licence 28 = .ok (.iload_n 1, 1) := by decide +kernel
theorem dX9_licence_29 : decode cX9_licence 29 = .ok (.iaload, 1) := by decide +kernel
theorem dX9_licence_30 : decode cX9_licence 30 = .ok (.istore_n 3, 1) := by decide +kernel
theorem dX9_licence_31 : decode cX9_licence 31 = .ok (.aload_n 0, 1) := by decide +kernel
theorem dX9_licence_32 : decode cX9_licence 32 = .ok (.getfield 38, 3) := by decide +kernel
theorem dX9_licence_35 : decode cX9_licence 35 = .ok (.iload_n 1, 1) := by decide +kernel
theorem dX9_licence_36 : decode cX9_licence 36 = .ok (.iload_n 2, 1) := by decide +kernel
theorem dX9_licence_37 : decode cX9_licence 37 = .ok (.iastore, 1) := by decide +kernel
theorem dX9_licence_38 : decode cX9_licence 38 = .ok (.iload_n 3, 1) := by decide +kernel
theorem dX9_licence_39 : decode cX9_licence 39 = .ok (.ireturn, 1) := by decide +kernel
theorem dX9_law_0 : decode cX9_law 0 = .ok (.iload_n 1, 1) := by decide +kernel
theorem dX9_law_1 : decode cX9_law 1 = .ok (.invokestatic 104, 3) := by decide +kernel
theorem dX9_law_4 : decode cX9_law 4 = .ok (.ifCond .eq 20, 3) := by decide +kernel
theorem dX9_law_7 : decode cX9_law 7 = .ok (.iload_n 2, 1) := by decide +kernel
theorem dX9_law_8 : decode cX9_law 8 = .ok (.invokestatic 104, 3) := by decide +kernel
theorem dX9_law_11 : decode cX9_law 11 = .ok (.ifCond .eq 13, 3) := by decide +kernel
theorem dX9_law_14 : decode cX9_law 14 = .ok (.iload_n 3, 1) := by decide +kernel
theorem dX9_law_15 : decode cX9_law 15 = .ok (.iconst 0, 1) := by decide +kernel
theorem dX9_law_16 : decode cX9_law 16 = .ok (.bipush 60, 2) := by decide +kernel
theorem dX9_law_18 : decode cX9_law 18 = .ok (.invokestatic 93, 3) := by decide +kernel
theorem dX9_law_21 : decode cX9_law 21 = .ok (.ifCond .ne 9, 3) := by decide +kernel
theorem dX9_law_24 : decode cX9_law 24 = .ok (.aload_n 0, 1) := by decide +kernel
theorem dX9_law_25 : decode cX9_law 25 = .ok (.iconst 1, 1) := by decide +kernel
theorem dX9_law_26 : decode cX9_law 26 = .ok (.invokevirtual 107, 3) := by decide +kernel
theorem dX9_law_29 : decode cX9_law 29 = .ok (.ireturn, 1) := by decide +kernel
theorem dX9_law_30 : decode cX9_law 30 = .ok (.aload_n 0, 1) := by decide +kernel
theorem dX9_law_31 : decode cX9_law 31 = .ok (.iload_n 1, 1) := by decide +kernel
theorem dX9_law_32 : decode cX9_law 32 = .ok (.putfield 13, 3) := by decide +kernel
theorem dX9_law_35 : decode cX9_law 35 = .ok (.aload_n 0, 1) := by decide +kernel
theorem dX9_law_36 : decode cX9_law 36 = .ok (.iload_n 2, 1) := by decide +kernel
theorem dX9_law_37 : decode cX9_law 37 = .ok (.putfield 114, 3) := by decide +kernel
theorem dX9_law_40 : decode cX9_law 40 = .ok (.aload_n 0, 1) := by decide +kernel
theorem dX9_law_41 : decode cX9_law 41 = .ok (.iload_n 3, 1) := by decide +kernel
theorem dX9_law_42 : decode cX9_law 42 = .ok (.putfield 16, 3) := by decide +kernel
theorem dX9_law_45 : decode cX9_law 45 = .ok (.iconst 1, 1) := by decide +kernel
theorem dX9_law_46 : decode cX9_law 46 = .ok (.ireturn, 1) := by decide +kernel
theorem dX9_isLicensed_0 : decode cX9_isLicensed 0 = .ok (.aload_n 0, 1) := by decide +kernel
theorem dX9_isLicensed_1 : decode cX9_isLicensed 1 = .ok (.getfield 38, 3) := by decide +kernel
theorem dX9_isLicensed_4 : decode cX9_isLicensed 4 = .ok (.iload_n 1, 1) := by decide +kernel
theorem dX9_isLicensed_5 : decode cX9_isLicensed 5 = .ok (.iaload, 1) := by decide +kernel
theorem dX9_isLicensed_6 : decode cX9_isLicensed 6 = .ok (.iload_n 2, 1) := by decide +kernel
theorem dX9_isLicensed_7 : decode cX9_isLicensed 7 = .ok (.ishr, 1) := by decide +kernel
theorem dX9_isLicensed_8 : decode cX9_isLicensed 8 = .ok (.iconst 1, 1) := by decide +kernel
theorem dX9_isLicensed_9 : decode cX9_isLicensed 9 = .ok (.iand, 1) := by decide +kernel
theorem dX9_isLicensed_10 : decode cX9_isLicensed 10 = .ok (.iconst 1, 1) := by decide +kernel
theorem dX9_isLicensed_11 : decode cX9_isLicensed 11 = .ok (.if_icmp .ne 7, 3) := by decide +kernel
theorem dX9_isLicensed_14 : decode cX9_isLicensed 14 = .ok (.iconst 1, 1) := by decide +kernel
theorem dX9_isLicensed_15 : decode cX9_isLicensed 15 = .ok (.goto 4, 3) := by decide +kernel
theorem dX9_isLicensed_18 : decode cX9_isLicensed 18 = .ok (.iconst 0, 1) := by decide +kernel
theorem dX9_isLicensed_19 : decode cX9_isLicensed 19 = .ok (.ireturn, 1) := by decide +kernel
theorem dX9_isBarred_0 : decode cX9_isBarred 0 = .ok (.aload_n 0, 1) := by decide +kernel
theorem dX9_isBarred_1 : decode cX9_isBarred 1 = .ok (.getfield 22, 3) := by decide +kernel
theorem dX9_isBarred_4 : decode cX9_isBarred 4 = .ok (.iload_n 1, 1) := by decide +kernel
theorem dX9_isBarred_5 : decode cX9_isBarred 5 = .ok (.iaload, 1) := by decide +kernel
theorem dX9_isBarred_6 : decode cX9_isBarred 6 = .ok (.iconst 1, 1) := by decide +kernel
theorem dX9_isBarred_7 : decode cX9_isBarred 7 = .ok (.if_icmp .ne 22, 3) := by decide +kernel
theorem dX9_isBarred_10 : decode cX9_isBarred 10 = .ok (.iload_n 2, 1) := by decide +kernel
theorem dX9_isBarred_11 : decode cX9_isBarred 11 = .ok (.aload_n 0, 1) := by decide +kernel
theorem dX9_isBarred_12 : decode cX9_isBarred 12 = .ok (.getfield 13, 3) := by decide +kernel
theorem dX9_isBarred_15 : decode cX9_isBarred 15 = .ok (.aload_n 0, 1) := by decide +kernel
theorem dX9_isBarred_16 : decode cX9_isBarred 16 = .ok (.getfield 114, 3) := by decide +kernel
theorem dX9_isBarred_19 : decode cX9_isBarred 19 = .ok (.invokestatic 93, 3) := by decide +kernel
theorem dX9_isBarred_22 : decode cX9_isBarred 22 = .ok (.ifCond .eq 7, 3) := by decide +kernel
theorem dX9_isBarred_25 : decode cX9_isBarred 25 = .ok (.iconst 1, 1) := by decide +kernel
theorem dX9_isBarred_26 : decode cX9_isBarred 26 = .ok (.goto 4, 3) := by decide +kernel
theorem dX9_isBarred_29 : decode cX9_isBarred 29 = .ok (.iconst 0, 1) := by decide +kernel
theorem dX9_isBarred_30 : decode cX9_isBarred 30 = .ok (.ireturn, 1) := by decide +kernel
theorem dX9_mayStand_0 : decode cX9_mayStand 0 = .ok (.aload_n 0, 1) := by decide +kernel
theorem dX9_mayStand_1 : decode cX9_mayStand 1 = .ok (.iload_n 1, 1) := by decide +kernel
theorem dX9_mayStand_2 : decode cX9_mayStand 2 = .ok (.iload_n 2, 1) := by decide +kernel
theorem dX9_mayStand_3 : decode cX9_mayStand 3 = .ok (.invokevirtual 117, 3) := by decide +kernel
theorem dX9_mayStand_6 : decode cX9_mayStand 6 = .ok (.ifCond .eq 16, 3) := by decide +kernel
theorem dX9_mayStand_9 : decode cX9_mayStand 9 = .ok (.aload_n 0, 1) := by decide +kernel
theorem dX9_mayStand_10 : decode cX9_mayStand 10 = .ok (.iload_n 2, 1) := by decide +kernel
theorem dX9_mayStand_11 : decode cX9_mayStand 11 = .ok (.iload_n 3, 1) := by decide +kernel
theorem dX9_mayStand_12 : decode cX9_mayStand 12 = .ok (.invokevirtual 121, 3) := by decide +kernel
theorem dX9_mayStand_15 : decode cX9_mayStand 15 = .ok (.ifCond .ne 7, 3) := by decide +kernel
theorem dX9_mayStand_18 : decode cX9_mayStand 18 = .ok (.iconst 1, 1) := by decide +kernel
theorem dX9_mayStand_19 : decode cX9_mayStand 19 = .ok (.goto 4, 3) := by decide +kernel
theorem dX9_mayStand_22 : decode cX9_mayStand 22 = .ok (.iconst 0, 1) := by decide +kernel
theorem dX9_mayStand_23 : decode cX9_mayStand 23 = .ok (.ireturn, 1) := by decide +kernel
theorem dX9_may_0 : decode cX9_may 0 = .ok (.aload_n 0, 1) := by decide +kernel
theorem dX9_may_1 : decode cX9_may 1 = .ok (.iload_n 1, 1) := by decide +kernel
theorem dX9_may_2 : decode cX9_may 2 = .ok (.invokevirtual 111, 3) := by decide +kernel
theorem dX9_may_5 : decode cX9_may 5 = .ok (.ifCond .eq 18, 3) := by decide +kernel
theorem dX9_may_8 : decode cX9_may 8 = .ok (.aload_n 0, 1) := by decide +kernel
theorem dX9_may_9 : decode cX9_may 9 = .ok (.iload_n 2, 1) := by decide +kernel
theorem dX9_may_10 : decode cX9_may 10 = .ok (.invokevirtual 100, 3) := by decide +kernel
theorem dX9_may_13 : decode cX9_may 13 = .ok (.ifCond .eq 10, 3) := by decide +kernel
theorem dX9_may_16 : decode cX9_may 16 = .ok (.iload_n 3, 1) := by decide +kernel
theorem dX9_may_17 : decode cX9_may 17 = .ok (.invokestatic 104, 3) := by decide +kernel
theorem dX9_may_20 : decode cX9_may 20 = .ok (.ifCond .ne 9, 3) := by decide +kernel
theorem dX9_may_23 : decode cX9_may 23 = .ok (.aload_n 0, 1) := by decide +kernel
theorem dX9_may_24 : decode cX9_may 24 = .ok (.iconst 1, 1) := by decide +kernel
theorem dX9_may_25 : decode cX9_may 25 = .ok (.invokevirtual 107, 3) := by decide +kernel
theorem dX9_may_28 : decode cX9_may 28 = .ok (.ireturn, 1) := by decide +kernel
theorem dX9_may_29 : decode cX9_may 29 = .ok (.aload_n 0, 1) := by decide +kernel
theorem dX9_may_30 : decode cX9_may 30 = .ok (.iload_n 1, 1) := by decide +kernel
theorem dX9_may_31 : decode cX9_may 31 = .ok (.iload_n 2, 1) := by decide +kernel
theorem dX9_may_32 : decode cX9_may 32 = .ok (.iload_n 3, 1) := by decide +kernel
theorem dX9_may_33 : decode cX9_may 33 = .ok (.invokevirtual 124, 3) := by decide +kernel
theorem dX9_may_36 : decode cX9_may 36 = .ok (.ifCond .eq 7, 3) := by decide +kernel
theorem dX9_may_39 : decode cX9_may 39 = .ok (.iconst 1, 1) := by decide +kernel
theorem dX9_may_40 : decode cX9_may 40 = .ok (.goto 4, 3) := by decide +kernel
theorem dX9_may_43 : decode cX9_may 43 = .ok (.iconst 0, 1) := by decide +kernel
theorem dX9_may_44 : decode cX9_may 44 = .ok (.ireturn, 1) := by decide +kernel
theorem dX9_worthOf_0 : decode cX9_worthOf 0 = .ok (.aload_n 0, 1) := by decide +kernel
theorem dX9_worthOf_1 : decode cX9_worthOf 1 = .ok (.getfield 29, 3) := by decide +kernel
theorem dX9_worthOf_4 : decode cX9_worthOf 4 = .ok (.bipush 12, 2) := by decide +kernel
theorem dX9_worthOf_6 : decode cX9_worthOf 6 = .ok (.iload_n 1, 1) := by decide +kernel
theorem dX9_worthOf_7 : decode cX9_worthOf 7 = .ok (.imul, 1) := by decide +kernel
theorem dX9_worthOf_8 : decode cX9_worthOf 8 = .ok (.iload_n 2, 1) := by decide +kernel
theorem dX9_worthOf_9 : decode cX9_worthOf 9 = .ok (.iadd, 1) := by decide +kernel
theorem dX9_worthOf_10 : decode cX9_worthOf 10 = .ok (.iaload, 1) := by decide +kernel
theorem dX9_worthOf_11 : decode cX9_worthOf 11 = .ok (.aload_n 0, 1) := by decide +kernel
theorem dX9_worthOf_12 : decode cX9_worthOf 12 = .ok (.getfield 7, 3) := by decide +kernel
theorem dX9_worthOf_15 : decode cX9_worthOf 15 = .ok (.iconst 2, 1) := by decide +kernel
theorem dX9_worthOf_16 : decode cX9_worthOf 16 = .ok (.iadd, 1) := by decide +kernel
theorem dX9_worthOf_17 : decode cX9_worthOf 17 = .ok (.imul, 1) := by decide +kernel
theorem dX9_worthOf_18 : decode cX9_worthOf 18 = .ok (.iconst 4, 1) := by decide +kernel
theorem dX9_worthOf_19 : decode cX9_worthOf 19 = .ok (.idiv, 1) := by decide +kernel
theorem dX9_worthOf_20 : decode cX9_worthOf 20 = .ok (.ireturn, 1) := by decide +kernel
theorem dX9_worth_0 : decode cX9_worth 0 = .ok (.aload_n 0, 1) := by decide +kernel
theorem dX9_worth_1 : decode cX9_worth 1 = .ok (.iload_n 1, 1) := by decide +kernel
theorem dX9_worth_2 : decode cX9_worth 2 = .ok (.invokevirtual 100, 3) := by decide +kernel
theorem dX9_worth_5 : decode cX9_worth 5 = .ok (.ifCond .eq 19, 3) := by decide +kernel
theorem dX9_worth_8 : decode cX9_worth 8 = .ok (.iload_n 2, 1) := by decide +kernel
theorem dX9_worth_9 : decode cX9_worth 9 = .ok (.invokestatic 104, 3) := by decide +kernel
theorem dX9_worth_12 : decode cX9_worth 12 = .ok (.ifCond .eq 12, 3) := by decide +kernel
theorem dX9_worth_15 : decode cX9_worth 15 = .ok (.aload_n 0, 1) := by decide +kernel
theorem dX9_worth_16 : decode cX9_worth 16 = .ok (.iload_n 1, 1) := by decide +kernel
theorem dX9_worth_17 : decode cX9_worth 17 = .ok (.iload_n 2, 1) := by decide +kernel
theorem dX9_worth_18 : decode cX9_worth 18 = .ok (.invokevirtual 127, 3) := by decide +kernel
theorem dX9_worth_21 : decode cX9_worth 21 = .ok (.goto 8, 3) := by decide +kernel
theorem dX9_worth_24 : decode cX9_worth 24 = .ok (.aload_n 0, 1) := by decide +kernel
theorem dX9_worth_25 : decode cX9_worth 25 = .ok (.iconst 1, 1) := by decide +kernel
theorem dX9_worth_26 : decode cX9_worth 26 = .ok (.invokevirtual 107, 3) := by decide +kernel
theorem dX9_worth_29 : decode cX9_worth 29 = .ok (.ireturn, 1) := by decide +kernel
theorem dX9_later_0 : decode cX9_later 0 = .ok (.iload_n 2, 1) := by decide +kernel
theorem dX9_later_1 : decode cX9_later 1 = .ok (.iload_n 3, 1) := by decide +kernel
theorem dX9_later_2 : decode cX9_later 2 = .ok (.if_icmp .ne 7, 3) := by decide +kernel
theorem dX9_later_5 : decode cX9_later 5 = .ok (.iconst 1, 1) := by decide +kernel
theorem dX9_later_6 : decode cX9_later 6 = .ok (.goto 32, 3) := by decide +kernel
theorem dX9_later_9 : decode cX9_later 9 = .ok (.iconst 1, 1) := by decide +kernel
theorem dX9_later_10 : decode cX9_later 10 = .ok (.aload_n 0, 1) := by decide +kernel
theorem dX9_later_11 : decode cX9_later 11 = .ok (.getfield 26, 3) := by decide +kernel
theorem dX9_later_14 : decode cX9_later 14 = .ok (.bipush 6, 2) := by decide +kernel
theorem dX9_later_16 : decode cX9_later 16 = .ok (.iload_n 2, 1) := by decide +kernel
theorem dX9_later_17 : decode cX9_later 17 = .ok (.imul, 1) := by decide +kernel
theorem dX9_later_18 : decode cX9_later 18 = .ok (.iload_n 3, 1) := by decide +kernel
theorem dX9_later_19 : decode cX9_later 19 = .ok (.iadd, 1) := by decide +kernel
theorem dX9_later_20 : decode cX9_later 20 = .ok (.iaload, 1) := by decide +kernel
theorem dX9_later_21 : decode cX9_later 21 = .ok (.iadd, 1) := by decide +kernel
theorem dX9_later_22 : decode cX9_later 22 = .ok (.aload_n 0, 1) := by decide +kernel
theorem dX9_later_23 : decode cX9_later 23 = .ok (.getfield 32, 3) := by decide +kernel
theorem dX9_later_26 : decode cX9_later 26 = .ok (.iload_n 1, 1) := by decide +kernel
theorem dX9_later_27 : decode cX9_later 27 = .ok (.iaload, 1) := by decide +kernel
theorem dX9_later_28 : decode cX9_later 28 = .ok (.iconst 2, 1) := by decide +kernel
theorem dX9_later_29 : decode cX9_later 29 = .ok (.if_icmp .ne 7, 3) := by decide +kernel
theorem dX9_later_32 : decode cX9_later 32 = .ok (.iconst 1, 1) := by decide +kernel
theorem dX9_later_33 : decode cX9_later 33 = .ok (.goto 4, 3) := by decide +kernel
theorem dX9_later_36 : decode cX9_later 36 = .ok (.iconst 0, 1) := by decide +kernel
theorem dX9_later_37 : decode cX9_later 37 = .ok (.iadd, 1) := by decide +kernel
theorem dX9_later_38 : decode cX9_later 38 = .ok (.ireturn, 1) := by decide +kernel
theorem dX9_sells_0 : decode cX9_sells 0 = .ok (.aload_n 0, 1) := by decide +kernel
theorem dX9_sells_1 : decode cX9_sells 1 = .ok (.aload_n 0, 1) := by decide +kernel
theorem dX9_sells_2 : decode cX9_sells 2 = .ok (.getfield 68, 3) := by decide +kernel
theorem dX9_sells_5 : decode cX9_sells 5 = .ok (.iload_n 2, 1) := by decide +kernel
theorem dX9_sells_6 : decode cX9_sells 6 = .ok (.iaload, 1) := by decide +kernel
theorem dX9_sells_7 : decode cX9_sells 7 = .ok (.aload_n 0, 1) := by decide +kernel
theorem dX9_sells_8 : decode cX9_sells 8 = .ok (.getfield 71, 3) := by decide +kernel
theorem dX9_sells_11 : decode cX9_sells 11 = .ok (.iload_n 2, 1) := by decide +kernel
theorem dX9_sells_12 : decode cX9_sells 12 = .ok (.iaload, 1) := by decide +kernel
theorem dX9_sells_13 : decode cX9_sells 13 = .ok (.invokevirtual 127, 3) := by decide +kernel
theorem dX9_sells_16 : decode cX9_sells 16 = .ok (.istore_n 3, 1) := by decide +kernel
theorem dX9_sells_17 : decode cX9_sells 17 = .ok (.iconst 0, 1) := by decide +kernel
theorem dX9_sells_18 : decode cX9_sells 18 = .ok (.istore 4, 2) := by decide +kernel
theorem dX9_sells_20 : decode cX9_sells 20 = .ok (.iconst 0, 1) := by decide +kernel
theorem dX9_sells_21 : decode cX9_sells 21 = .ok (.istore 5, 2) := by decide +kernel
theorem dX9_sells_23 : decode cX9_sells 23 = .ok (.iload 5, 2) := by decide +kernel
theorem dX9_sells_25 : decode cX9_sells 25 = .ok (.iload_n 2, 1) := by decide +kernel
theorem dX9_sells_26 : decode cX9_sells 26 = .ok (.if_icmp .ge 55, 3) := by decide +kernel
theorem dX9_sells_29 : decode cX9_sells 29 = .ok (.iload 4, 2) := by decide +kernel
theorem dX9_sells_31 : decode cX9_sells 31 = .ok (.ifCond .ne 37, 3) := by decide +kernel
theorem dX9_sells_34 : decode cX9_sells 34 = .ok (.aload_n 0, 1) := by decide +kernel
theorem dX9_sells_35 : decode cX9_sells 35 = .ok (.getfield 68, 3) := by decide +kernel
theorem dX9_sells_38 : decode cX9_sells 38 = .ok (.iload 5, 2) := by decide +kernel
theorem dX9_sells_40 : decode cX9_sells 40 = .ok (.iaload, 1) := by decide +kernel
theorem dX9_sells_41 : decode cX9_sells 41 = .ok (.aload_n 0, 1) := by decide +kernel
theorem dX9_sells_42 : decode cX9_sells 42 = .ok (.getfield 68, 3) := by decide +kernel
theorem dX9_sells_45 : decode cX9_sells 45 = .ok (.iload_n 2, 1) := by decide +kernel
theorem dX9_sells_46 : decode cX9_sells 46 = .ok (.iaload, 1) := by decide +kernel
theorem dX9_sells_47 : decode cX9_sells 47 = .ok (.if_icmp .ne 25, 3) := by decide +kernel
theorem dX9_sells_50 : decode cX9_sells 50 = .ok (.aload_n 0, 1) := by decide +kernel
theorem dX9_sells_51 : decode cX9_sells 51 = .ok (.getfield 71, 3) := by decide +kernel
theorem dX9_sells_54 : decode cX9_sells 54 = .ok (.iload_n 2, 1) := by decide +kernel
theorem dX9_sells_55 : decode cX9_sells 55 = .ok (.iaload, 1) := by decide +kernel
end
section
theorem dX9_sells_56 : decode cX9_sells 56 = .ok (.aload_n 0, 1) := by decide +kernel
theorem dX9_sells_57 : decode cX9_sells 57 = .ok (.getfield 71, 3) := by decide +kernel
theorem dX9_sells_60 : decode cX9_sells 60 = .ok (.iload 5, 2) := by decide +kernel
theorem dX9_sells_62 : decode cX9_sells 62 = .ok (.iaload, 1) := by decide +kernel
theorem dX9_sells_63 : decode cX9_sells 63 = .ok (.isub, 1) := by decide +kernel
theorem dX9_sells_64 : decode cX9_sells 64 = .ok (.iconst 3, 1) := by decide +kernel
theorem dX9_sells_65 : decode cX9_sells 65 = .ok (.if_icmp .ge 7, 3) := by decide +kernel
theorem dX9_sells_68 : decode cX9_sells 68 = .ok (.iconst 1, 1) := by decide +kernel
theorem dX9_sells_69 : decode cX9_sells 69 = .ok (.goto 4, 3) := by decide +kernel
theorem dX9_sells_72 : decode cX9_sells 72 = .ok (.iconst 0, 1) := by decide +kernel
theorem dX9_sells_73 : decode cX9_sells 73 = .ok (.istore 4, 2) := by decide +kernel
theorem dX9_sells_75 : decode cX9_sells 75 = .ok (.iinc 5 1, 3) := by decide +kernel
theorem dX9_sells_78 : decode cX9_sells 78 = .ok (.goto (-55), 3) := by decide +kernel
theorem dX9_sells_81 : decode cX9_sells 81 = .ok (.iload 4, 2) := by decide +kernel
theorem dX9_sells_83 : decode cX9_sells 83 = .ok (.ifCond .eq 9, 3) := by decide +kernel
theorem dX9_sells_86 : decode cX9_sells 86 = .ok (.iload_n 3, 1) := by decide +kernel
theorem dX9_sells_87 : decode cX9_sells 87 = .ok (.iconst 2, 1) := by decide +kernel
theorem dX9_sells_88 : decode cX9_sells 88 = .ok (.idiv, 1) := by decide +kernel
theorem dX9_sells_89 : decode cX9_sells 89 = .ok (.goto 4, 3) := by decide +kernel
theorem dX9_sells_92 : decode cX9_sells 92 = .ok (.iload_n 3, 1) := by decide +kernel
theorem dX9_sells_93 : decode cX9_sells 93 = .ok (.istore 5, 2) := by decide +kernel
theorem dX9_sells_95 : decode cX9_sells 95 = .ok (.aload_n 0, 1) := by decide +kernel
theorem dX9_sells_96 : decode cX9_sells 96 = .ok (.getfield 32, 3) := by decide +kernel
theorem dX9_sells_99 : decode cX9_sells 99 = .ok (.iload_n 1, 1) := by decide +kernel
theorem dX9_sells_100 : decode cX9_sells 100 = .ok (.iaload, 1) := by decide +kernel
theorem dX9_sells_101 : decode cX9_sells 101 = .ok (.iconst 1, 1) := by decide +kernel
theorem dX9_sells_102 : decode cX9_sells 102 = .ok (.if_icmp .ne 15, 3) := by decide +kernel
theorem dX9_sells_105 : decode cX9_sells 105 = .ok (.iload 5, 2) := by decide +kernel
theorem dX9_sells_107 : decode cX9_sells 107 = .ok (.bipush 30, 2) := by decide +kernel
theorem dX9_sells_109 : decode cX9_sells 109 = .ok (.if_icmp .le 8, 3) := by decide +kernel
theorem dX9_sells_112 : decode cX9_sells 112 = .ok (.bipush 30, 2) := by decide +kernel
theorem dX9_sells_114 : decode cX9_sells 114 = .ok (.goto 5, 3) := by decide +kernel
theorem dX9_sells_117 : decode cX9_sells 117 = .ok (.iload 5, 2) := by decide +kernel
theorem dX9_sells_119 : decode cX9_sells 119 = .ok (.istore 5, 2) := by decide +kernel
theorem dX9_sells_121 : decode cX9_sells 121 = .ok (.iload_n 2, 1) := by decide +kernel
theorem dX9_sells_122 : decode cX9_sells 122 = .ok (.ifCond .ne 12, 3) := by decide +kernel
theorem dX9_sells_125 : decode cX9_sells 125 = .ok (.aload_n 0, 1) := by decide +kernel
theorem dX9_sells_126 : decode cX9_sells 126 = .ok (.getfield 35, 3) := by decide +kernel
theorem dX9_sells_129 : decode cX9_sells 129 = .ok (.iload_n 1, 1) := by decide +kernel
theorem dX9_sells_130 : decode cX9_sells 130 = .ok (.iaload, 1) := by decide +kernel
theorem dX9_sells_131 : decode cX9_sells 131 = .ok (.goto 11, 3) := by decide +kernel
theorem dX9_sells_134 : decode cX9_sells 134 = .ok (.aload_n 0, 1) := by decide +kernel
theorem dX9_sells_135 : decode cX9_sells 135 = .ok (.getfield 77, 3) := by decide +kernel
theorem dX9_sells_138 : decode cX9_sells 138 = .ok (.iload_n 2, 1) := by decide +kernel
theorem dX9_sells_139 : decode cX9_sells 139 = .ok (.iconst 1, 1) := by decide +kernel
theorem dX9_sells_140 : decode cX9_sells 140 = .ok (.isub, 1) := by decide +kernel
theorem dX9_sells_141 : decode cX9_sells 141 = .ok (.iaload, 1) := by decide +kernel
theorem dX9_sells_142 : decode cX9_sells 142 = .ok (.istore 6, 2) := by decide +kernel
theorem dX9_sells_144 : decode cX9_sells 144 = .ok (.iload 6, 2) := by decide +kernel
theorem dX9_sells_146 : decode cX9_sells 146 = .ok (.iload 5, 2) := by decide +kernel
theorem dX9_sells_148 : decode cX9_sells 148 = .ok (.if_icmp .ge 8, 3) := by decide +kernel
theorem dX9_sells_151 : decode cX9_sells 151 = .ok (.iload 6, 2) := by decide +kernel
theorem dX9_sells_153 : decode cX9_sells 153 = .ok (.goto 5, 3) := by decide +kernel
theorem dX9_sells_156 : decode cX9_sells 156 = .ok (.iload 5, 2) := by decide +kernel
theorem dX9_sells_158 : decode cX9_sells 158 = .ok (.istore 7, 2) := by decide +kernel
theorem dX9_sells_160 : decode cX9_sells 160 = .ok (.iload 6, 2) := by decide +kernel
theorem dX9_sells_162 : decode cX9_sells 162 = .ok (.iload 7, 2) := by decide +kernel
theorem dX9_sells_164 : decode cX9_sells 164 = .ok (.isub, 1) := by decide +kernel
theorem dX9_sells_165 : decode cX9_sells 165 = .ok (.istore 8, 2) := by decide +kernel
theorem dX9_sells_167 : decode cX9_sells 167 = .ok (.aload_n 0, 1) := by decide +kernel
theorem dX9_sells_168 : decode cX9_sells 168 = .ok (.getfield 74, 3) := by decide +kernel
theorem dX9_sells_171 : decode cX9_sells 171 = .ok (.iload_n 2, 1) := by decide +kernel
theorem dX9_sells_172 : decode cX9_sells 172 = .ok (.iload_n 2, 1) := by decide +kernel
theorem dX9_sells_173 : decode cX9_sells 173 = .ok (.ifCond .ne 7, 3) := by decide +kernel
theorem dX9_sells_176 : decode cX9_sells 176 = .ok (.iconst 0, 1) := by decide +kernel
theorem dX9_sells_177 : decode cX9_sells 177 = .ok (.goto 11, 3) := by decide +kernel
theorem dX9_sells_180 : decode cX9_sells 180 = .ok (.aload_n 0, 1) := by decide +kernel
theorem dX9_sells_181 : decode cX9_sells 181 = .ok (.getfield 74, 3) := by decide +kernel
theorem dX9_sells_184 : decode cX9_sells 184 = .ok (.iload_n 2, 1) := by decide +kernel
theorem dX9_sells_185 : decode cX9_sells 185 = .ok (.iconst 1, 1) := by decide +kernel
theorem dX9_sells_186 : decode cX9_sells 186 = .ok (.isub, 1) := by decide +kernel
theorem dX9_sells_187 : decode cX9_sells 187 = .ok (.iaload, 1) := by decide +kernel
theorem dX9_sells_188 : decode cX9_sells 188 = .ok (.iload 7, 2) := by decide +kernel
theorem dX9_sells_190 : decode cX9_sells 190 = .ok (.iadd, 1) := by decide +kernel
theorem dX9_sells_191 : decode cX9_sells 191 = .ok (.iastore, 1) := by decide +kernel
theorem dX9_sells_192 : decode cX9_sells 192 = .ok (.aload_n 0, 1) := by decide +kernel
theorem dX9_sells_193 : decode cX9_sells 193 = .ok (.getfield 77, 3) := by decide +kernel
theorem dX9_sells_196 : decode cX9_sells 196 = .ok (.iload_n 2, 1) := by decide +kernel
theorem dX9_sells_197 : decode cX9_sells 197 = .ok (.iload 8, 2) := by decide +kernel
theorem dX9_sells_199 : decode cX9_sells 199 = .ok (.aload_n 0, 1) := by decide +kernel
theorem dX9_sells_200 : decode cX9_sells 200 = .ok (.getfield 32, 3) := by decide +kernel
theorem dX9_sells_203 : decode cX9_sells 203 = .ok (.iload_n 1, 1) := by decide +kernel
theorem dX9_sells_204 : decode cX9_sells 204 = .ok (.iaload, 1) := by decide +kernel
theorem dX9_sells_205 : decode cX9_sells 205 = .ok (.iconst 1, 1) := by decide +kernel
theorem dX9_sells_206 : decode cX9_sells 206 = .ok (.if_icmp .ne 10, 3) := by decide +kernel
theorem dX9_sells_209 : decode cX9_sells 209 = .ok (.iload 8, 2) := by decide +kernel
theorem dX9_sells_211 : decode cX9_sells 211 = .ok (.iconst 5, 1) := by decide +kernel
theorem dX9_sells_212 : decode cX9_sells 212 = .ok (.idiv, 1) := by decide +kernel
theorem dX9_sells_213 : decode cX9_sells 213 = .ok (.goto 22, 3) := by decide +kernel
theorem dX9_sells_216 : decode cX9_sells 216 = .ok (.aload_n 0, 1) := by decide +kernel
theorem dX9_sells_217 : decode cX9_sells 217 = .ok (.getfield 32, 3) := by decide +kernel
theorem dX9_sells_220 : decode cX9_sells 220 = .ok (.iload_n 1, 1) := by decide +kernel
theorem dX9_sells_221 : decode cX9_sells 221 = .ok (.iaload, 1) := by decide +kernel
theorem dX9_sells_222 : decode cX9_sells 222 = .ok (.iconst 2, 1) := by decide +kernel
theorem dX9_sells_223 : decode cX9_sells 223 = .ok (.if_icmp .ne 7, 3) := by decide +kernel
theorem dX9_sells_226 : decode cX9_sells 226 = .ok (.iconst 0, 1) := by decide +kernel
theorem dX9_sells_227 : decode cX9_sells 227 = .ok (.goto 8, 3) := by decide +kernel
theorem dX9_sells_230 : decode cX9_sells 230 = .ok (.iload 8, 2) := by decide +kernel
theorem dX9_sells_232 : decode cX9_sells 232 = .ok (.bipush 10, 2) := by decide +kernel
theorem dX9_sells_234 : decode cX9_sells 234 = .ok (.idiv, 1) := by decide +kernel
theorem dX9_sells_235 : decode cX9_sells 235 = .ok (.isub, 1) := by decide +kernel
theorem dX9_sells_236 : decode cX9_sells 236 = .ok (.iastore, 1) := by decide +kernel
theorem dX9_sells_237 : decode cX9_sells 237 = .ok (.return_, 1) := by decide +kernel
theorem dX9_note_0 : decode cX9_note 0 = .ok (.aload_n 0, 1) := by decide +kernel
theorem dX9_note_1 : decode cX9_note 1 = .ok (.getfield 131, 3) := by decide +kernel
theorem dX9_note_4 : decode cX9_note 4 = .ok (.ifCond .le 19, 3) := by decide +kernel
theorem dX9_note_7 : decode cX9_note 7 = .ok (.aload_n 0, 1) := by decide +kernel
theorem dX9_note_8 : decode cX9_note 8 = .ok (.getfield 74, 3) := by decide +kernel
theorem dX9_note_11 : decode cX9_note 11 = .ok (.iload_n 1, 1) := by decide +kernel
theorem dX9_note_12 : decode cX9_note 12 = .ok (.iconst 1, 1) := by decide +kernel
theorem dX9_note_13 : decode cX9_note 13 = .ok (.isub, 1) := by decide +kernel
theorem dX9_note_14 : decode cX9_note 14 = .ok (.iaload, 1) := by decide +kernel
theorem dX9_note_15 : decode cX9_note 15 = .ok (.aload_n 0, 1) := by decide +kernel
theorem dX9_note_16 : decode cX9_note 16 = .ok (.getfield 134, 3) := by decide +kernel
theorem dX9_note_19 : decode cX9_note 19 = .ok (.if_icmp .gt 4, 3) := by decide +kernel
theorem dX9_note_22 : decode cX9_note 22 = .ok (.return_, 1) := by decide +kernel
theorem dX9_note_23 : decode cX9_note 23 = .ok (.aload_n 0, 1) := by decide +kernel
theorem dX9_note_24 : decode cX9_note 24 = .ok (.iload_n 1, 1) := by decide +kernel
theorem dX9_note_25 : decode cX9_note 25 = .ok (.putfield 131, 3) := by decide +kernel
theorem dX9_note_28 : decode cX9_note 28 = .ok (.aload_n 0, 1) := by decide +kernel
theorem dX9_note_29 : decode cX9_note 29 = .ok (.aload_n 0, 1) := by decide +kernel
theorem dX9_note_30 : decode cX9_note 30 = .ok (.getfield 74, 3) := by decide +kernel
theorem dX9_note_33 : decode cX9_note 33 = .ok (.iload_n 1, 1) := by decide +kernel
theorem dX9_note_34 : decode cX9_note 34 = .ok (.iconst 1, 1) := by decide +kernel
theorem dX9_note_35 : decode cX9_note 35 = .ok (.isub, 1) := by decide +kernel
theorem dX9_note_36 : decode cX9_note 36 = .ok (.iaload, 1) := by decide +kernel
theorem dX9_note_37 : decode cX9_note 37 = .ok (.putfield 134, 3) := by decide +kernel
theorem dX9_note_40 : decode cX9_note 40 = .ok (.aload_n 0, 1) := by decide +kernel
theorem dX9_note_41 : decode cX9_note 41 = .ok (.aload_n 0, 1) := by decide +kernel
theorem dX9_note_42 : decode cX9_note 42 = .ok (.getfield 77, 3) := by decide +kernel
theorem dX9_note_45 : decode cX9_note 45 = .ok (.iload_n 1, 1) := by decide +kernel
theorem dX9_note_46 : decode cX9_note 46 = .ok (.iconst 1, 1) := by decide +kernel
theorem dX9_note_47 : decode cX9_note 47 = .ok (.isub, 1) := by decide +kernel
theorem dX9_note_48 : decode cX9_note 48 = .ok (.iaload, 1) := by decide +kernel
theorem dX9_note_49 : decode cX9_note 49 = .ok (.putfield 137, 3) := by decide +kernel
theorem dX9_note_52 : decode cX9_note 52 = .ok (.iconst 0, 1) := by decide +kernel
theorem dX9_note_53 : decode cX9_note 53 = .ok (.istore_n 2, 1) := by decide +kernel
theorem dX9_note_54 : decode cX9_note 54 = .ok (.iload_n 2, 1) := by decide +kernel
theorem dX9_note_55 : decode cX9_note 55 = .ok (.iload_n 1, 1) := by decide +kernel
theorem dX9_note_56 : decode cX9_note 56 = .ok (.if_icmp .ge 33, 3) := by decide +kernel
theorem dX9_note_59 : decode cX9_note 59 = .ok (.aload_n 0, 1) := by decide +kernel
theorem dX9_note_60 : decode cX9_note 60 = .ok (.getfield 83, 3) := by decide +kernel
theorem dX9_note_63 : decode cX9_note 63 = .ok (.iload_n 2, 1) := by decide +kernel
theorem dX9_note_64 : decode cX9_note 64 = .ok (.aload_n 0, 1) := by decide +kernel
theorem dX9_note_65 : decode cX9_note 65 = .ok (.getfield 68, 3) := by decide +kernel
theorem dX9_note_68 : decode cX9_note 68 = .ok (.iload_n 2, 1) := by decide +kernel
theorem dX9_note_69 : decode cX9_note 69 = .ok (.iaload, 1) := by decide +kernel
theorem dX9_note_70 : decode cX9_note 70 = .ok (.iastore, 1) := by decide +kernel
theorem dX9_note_71 : decode cX9_note 71 = .ok (.aload_n 0, 1) := by decide +kernel
theorem dX9_note_72 : decode cX9_note 72 = .ok (.getfield 86, 3) := by decide +kernel
theorem dX9_note_75 : decode cX9_note 75 = .ok (.iload_n 2, 1) := by decide +kernel
theorem dX9_note_76 : decode cX9_note 76 = .ok (.aload_n 0, 1) := by decide +kernel
theorem dX9_note_77 : decode cX9_note 77 = .ok (.getfield 71, 3) := by decide +kernel
theorem dX9_note_80 : decode cX9_note 80 = .ok (.iload_n 2, 1) := by decide +kernel
theorem dX9_note_81 : decode cX9_note 81 = .ok (.iaload, 1) := by decide +kernel
theorem dX9_note_82 : decode cX9_note 82 = .ok (.iastore, 1) := by decide +kernel
theorem dX9_note_83 : decode cX9_note 83 = .ok (.iinc 2 1, 3) := by decide +kernel
theorem dX9_note_86 : decode cX9_note 86 = .ok (.goto (-32), 3) := by decide +kernel
theorem dX9_note_89 : decode cX9_note 89 = .ok (.return_, 1) := by decide +kernel
theorem dX9_findPlan_0 : decode cX9_findPlan 0 = .ok (.aload_n 0, 1) := by decide +kernel
theorem dX9_findPlan_1 : decode cX9_findPlan 1 = .ok (.iconst 0, 1) := by decide +kernel
theorem dX9_findPlan_2 : decode cX9_findPlan 2 = .ok (.putfield 131, 3) := by decide +kernel
theorem dX9_findPlan_5 : decode cX9_findPlan 5 = .ok (.aload_n 0, 1) := by decide +kernel
theorem dX9_findPlan_6 : decode cX9_findPlan 6 = .ok (.getfield 68, 3) := by decide +kernel
theorem dX9_findPlan_9 : decode cX9_findPlan 9 = .ok (.iconst 0, 1) := by decide +kernel
theorem dX9_findPlan_10 : decode cX9_findPlan 10 = .ok (.iload_n 2, 1) := by decide +kernel
theorem dX9_findPlan_11 : decode cX9_findPlan 11 = .ok (.bipush 100, 2) := by decide +kernel
theorem dX9_findPlan_13 : decode cX9_findPlan 13 = .ok (.idiv, 1) := by decide +kernel
theorem dX9_findPlan_14 : decode cX9_findPlan 14 = .ok (.iastore, 1) := by decide +kernel
theorem dX9_findPlan_15 : decode cX9_findPlan 15 = .ok (.aload_n 0, 1) := by decide +kernel
theorem dX9_findPlan_16 : decode cX9_findPlan 16 = .ok (.getfield 71, 3) := by decide +kernel
theorem dX9_findPlan_19 : decode cX9_findPlan 19 = .ok (.iconst 0, 1) := by decide +kernel
theorem dX9_findPlan_20 : decode cX9_findPlan 20 = .ok (.iload_n 2, 1) := by decide +kernel
theorem dX9_findPlan_21 : decode cX9_findPlan 21 = .ok (.bipush 100, 2) := by decide +kernel
theorem dX9_findPlan_23 : decode cX9_findPlan 23 = .ok (.irem, 1) := by decide +kernel
theorem dX9_findPlan_24 : decode cX9_findPlan 24 = .ok (.iastore, 1) := by decide +kernel
theorem dX9_findPlan_25 : decode cX9_findPlan 25 = .ok (.aload_n 0, 1) := by decide +kernel
theorem dX9_findPlan_26 : decode cX9_findPlan 26 = .ok (.getfield 71, 3) := by decide +kernel
theorem dX9_findPlan_29 : decode cX9_findPlan 29 = .ok (.iconst 0, 1) := by decide +kernel
theorem dX9_findPlan_30 : decode cX9_findPlan 30 = .ok (.iaload, 1) := by decide +kernel
theorem dX9_findPlan_31 : decode cX9_findPlan 31 = .ok (.iload_n 3, 1) := by decide +kernel
theorem dX9_findPlan_32 : decode cX9_findPlan 32 = .ok (.iadd, 1) := by decide +kernel
theorem dX9_findPlan_33 : decode cX9_findPlan 33 = .ok (.iconst 1, 1) := by decide +kernel
theorem dX9_findPlan_34 : decode cX9_findPlan 34 = .ok (.isub, 1) := by decide +kernel
theorem dX9_findPlan_35 : decode cX9_findPlan 35 = .ok (.bipush 11, 2) := by decide +kernel
theorem dX9_findPlan_37 : decode cX9_findPlan 37 = .ok (.if_icmp .ge 16, 3) := by decide +kernel
theorem dX9_findPlan_40 : decode cX9_findPlan 40 = .ok (.aload_n 0, 1) := by decide +kernel
theorem dX9_findPlan_41 : decode cX9_findPlan 41 = .ok (.getfield 71, 3) := by decide +kernel
theorem dX9_findPlan_44 : decode cX9_findPlan 44 = .ok (.iconst 0, 1) := by decide +kernel
theorem dX9_findPlan_45 : decode cX9_findPlan 45 = .ok (.iaload, 1) := by decide +kernel
theorem dX9_findPlan_46 : decode cX9_findPlan 46 = .ok (.iload_n 3, 1) := by decide +kernel
theorem dX9_findPlan_47 : decode cX9_findPlan 47 = .ok (.iadd, 1) := by decide +kernel
theorem dX9_findPlan_48 : decode cX9_findPlan 48 = .ok (.iconst 1, 1) := by decide +kernel
theorem dX9_findPlan_49 : decode cX9_findPlan 49 = .ok (.isub, 1) := by decide +kernel
theorem dX9_findPlan_50 : decode cX9_findPlan 50 = .ok (.goto 5, 3) := by decide +kernel
theorem dX9_findPlan_53 : decode cX9_findPlan 53 = .ok (.bipush 11, 2) := by decide +kernel
theorem dX9_findPlan_55 : decode cX9_findPlan 55 = .ok (.istore 4, 2) := by decide +kernel
theorem dX9_findPlan_57 : decode cX9_findPlan 57 = .ok (.aload_n 0, 1) := by decide +kernel
theorem dX9_findPlan_58 : decode cX9_findPlan 58 = .ok (.iload_n 1, 1) := by decide +kernel
theorem dX9_findPlan_59 : decode cX9_findPlan 59 = .ok (.iconst 0, 1) := by decide +kernel
theorem dX9_findPlan_60 : decode cX9_findPlan 60 = .ok (.invokevirtual 140, 3) := by decide +kernel
theorem dX9_findPlan_63 : decode cX9_findPlan 63 = .ok (.aload_n 0, 1) := by decide +kernel
theorem dX9_findPlan_64 : decode cX9_findPlan 64 = .ok (.iconst 1, 1) := by decide +kernel
theorem dX9_findPlan_65 : decode cX9_findPlan 65 = .ok (.invokevirtual 144, 3) := by decide +kernel
theorem dX9_findPlan_68 : decode cX9_findPlan 68 = .ok (.aload_n 0, 1) := by decide +kernel
theorem dX9_findPlan_69 : decode cX9_findPlan 69 = .ok (.getfield 80, 3) := by decide +kernel
theorem dX9_findPlan_72 : decode cX9_findPlan 72 = .ok (.iconst 0, 1) := by decide +kernel
theorem dX9_findPlan_73 : decode cX9_findPlan 73 = .ok (.iconst 0, 1) := by decide +kernel
theorem dX9_findPlan_74 : decode cX9_findPlan 74 = .ok (.iastore, 1) := by decide +kernel
theorem dX9_findPlan_75 : decode cX9_findPlan 75 = .ok (.iconst 1, 1) := by decide +kernel
theorem dX9_findPlan_76 : decode cX9_findPlan 76 = .ok (.istore 5, 2) := by decide +kernel
theorem dX9_findPlan_78 : decode cX9_findPlan 78 = .ok (.iload 5, 2) := by decide +kernel
theorem dX9_findPlan_80 : decode cX9_findPlan 80 = .ok (.ifCond .le 137, 3) := by decide +kernel
theorem dX9_findPlan_83 : decode cX9_findPlan 83 = .ok (.aload_n 0, 1) := by decide +kernel
theorem dX9_findPlan_84 : decode cX9_findPlan 84 = .ok (.getfield 80, 3) := by decide +kernel
theorem dX9_findPlan_87 : decode cX9_findPlan 87 = .ok (.iload 5, 2) := by decide +kernel
theorem dX9_findPlan_89 : decode cX9_findPlan 89 = .ok (.iconst 1, 1) := by decide +kernel
theorem dX9_findPlan_90 : decode cX9_findPlan 90 = .ok (.isub, 1) := by decide +kernel
theorem dX9_findPlan_91 : decode cX9_findPlan 91 = .ok (.iaload, 1) := by decide +kernel
theorem dX9_findPlan_92 : decode cX9_findPlan 92 = .ok (.istore 6, 2) := by decide +kernel
theorem dX9_findPlan_94 : decode cX9_findPlan 94 = .ok (.iload 6, 2) := by decide +kernel
theorem dX9_findPlan_96 : decode cX9_findPlan 96 = .ok (.aload_n 0, 1) := by decide +kernel
theorem dX9_findPlan_97 : decode cX9_findPlan 97 = .ok (.getfield 90, 3) := by decide +kernel
theorem dX9_findPlan_100 : decode cX9_findPlan 100 = .ok (.if_icmp .ne 9, 3) := by decide +kernel
theorem dX9_findPlan_103 : decode cX9_findPlan 103 = .ok (.iinc 5 (-1), 3) := by decide +kernel
theorem dX9_findPlan_106 : decode cX9_findPlan 106 = .ok (.goto (-28), 3) := by decide +kernel
theorem dX9_findPlan_109 : decode cX9_findPlan 109 = .ok (.aload_n 0, 1) := by decide +kernel
theorem dX9_findPlan_110 : decode cX9_findPlan 110 = .ok (.getfield 80, 3) := by decide +kernel
theorem dX9_findPlan_113 : decode cX9_findPlan 113 = .ok (.iload 5, 2) := by decide +kernel
theorem dX9_findPlan_115 : decode cX9_findPlan 115 = .ok (.iconst 1, 1) := by decide +kernel
theorem dX9_findPlan_116 : decode cX9_findPlan 116 = .ok (.isub, 1) := by decide +kernel
theorem dX9_findPlan_117 : decode cX9_findPlan 117 = .ok (.dup2, 1) := by decide +kernel
theorem dX9_findPlan_118 : decode cX9_findPlan 118 = .ok (.iaload, 1) := by decide +kernel
theorem dX9_findPlan_119 : decode cX9_findPlan 119 = .ok (.iconst 1, 1) := by decide +kernel
theorem dX9_findPlan_120 : decode cX9_findPlan 120 = .ok (.iadd, 1) := by decide +kernel
theorem dX9_findPlan_121 : decode cX9_findPlan 121 = .ok (.iastore, 1) := by decide +kernel
theorem dX9_findPlan_122 : decode cX9_findPlan 122 = .ok (.aload_n 0, 1) := by decide +kernel
theorem dX9_findPlan_123 : decode cX9_findPlan 123 = .ok (.getfield 71, 3) := by decide +kernel
theorem dX9_findPlan_126 : decode cX9_findPlan 126 = .ok (.iload 5, 2) := by decide +kernel
theorem dX9_findPlan_128 : decode cX9_findPlan 128 = .ok (.iconst 1, 1) := by decide +kernel
theorem dX9_findPlan_129 : decode cX9_findPlan 129 = .ok (.isub, 1) := by decide +kernel
theorem dX9_findPlan_130 : decode cX9_findPlan 130 = .ok (.iaload, 1) := by decide +kernel
theorem dX9_findPlan_131 : decode cX9_findPlan 131 = .ok (.aload_n 0, 1) := by decide +kernel
theorem dX9_findPlan_132 : decode cX9_findPlan 132 = .ok (.iload_n 1, 1) := by decide +kernel
theorem dX9_findPlan_133 : decode cX9_findPlan 133 = .ok (.aload_n 0, 1) := by decide +kernel
theorem dX9_findPlan_134 : decode cX9_findPlan 134 = .ok (.getfield 68, 3) := by decide +kernel
theorem dX9_findPlan_137 : decode cX9_findPlan 137 = .ok (.iload 5, 2) := by decide +kernel
theorem dX9_findPlan_139 : decode cX9_findPlan 139 = .ok (.iconst 1, 1) := by decide +kernel
theorem dX9_findPlan_140 : decode cX9_findPlan 140 = .ok (.isub, 1) := by decide +kernel
theorem dX9_findPlan_141 : decode cX9_findPlan 141 = .ok (.iaload, 1) := by decide +kernel
theorem dX9_findPlan_142 : decode cX9_findPlan 142 = .ok (.iload 6, 2) := by decide +kernel
theorem dX9_findPlan_144 : decode cX9_findPlan 144 = .ok (.invokevirtual 148, 3) := by decide +kernel
theorem dX9_findPlan_147 : decode cX9_findPlan 147 = .ok (.iadd, 1) := by decide +kernel
theorem dX9_findPlan_148 : decode cX9_findPlan 148 = .ok (.istore 7, 2) := by decide +kernel
theorem dX9_findPlan_150 : decode cX9_findPlan 150 = .ok (.iload 7, 2) := by decide +kernel
theorem dX9_findPlan_152 : decode cX9_findPlan 152 = .ok (.iload 4, 2) := by decide +kernel
theorem dX9_findPlan_154 : decode cX9_findPlan 154 = .ok (.if_icmp .gt (-76), 3) := by decide +kernel
theorem dX9_findPlan_157 : decode cX9_findPlan 157 = .ok (.aload_n 0, 1) := by decide +kernel
theorem dX9_findPlan_158 : decode cX9_findPlan 158 = .ok (.iload_n 1, 1) := by decide +kernel
theorem dX9_findPlan_159 : decode cX9_findPlan 159 = .ok (.iload 6, 2) := by decide +kernel
theorem dX9_findPlan_161 : decode cX9_findPlan 161 = .ok (.iload 7, 2) := by decide +kernel
theorem dX9_findPlan_163 : decode cX9_findPlan 163 = .ok (.invokevirtual 124, 3) := by decide +kernel
theorem dX9_findPlan_166 : decode cX9_findPlan 166 = .ok (.ifCond .ne 6, 3) := by decide +kernel
theorem dX9_findPlan_169 : decode cX9_findPlan 169 = .ok (.goto (-91), 3) := by decide +kernel
theorem dX9_findPlan_172 : decode cX9_findPlan 172 = .ok (.aload_n 0, 1) := by decide +kernel
theorem dX9_findPlan_173 : decode cX9_findPlan 173 = .ok (.getfield 68, 3) := by decide +kernel
theorem dX9_findPlan_176 : decode cX9_findPlan 176 = .ok (.iload 5, 2) := by decide +kernel
theorem dX9_findPlan_178 : decode cX9_findPlan 178 = .ok (.iload 6, 2) := by decide +kernel
theorem dX9_findPlan_180 : decode cX9_findPlan 180 = .ok (.iastore, 1) := by decide +kernel
theorem dX9_findPlan_181 : decode cX9_findPlan 181 = .ok (.aload_n 0, 1) := by decide +kernel
theorem dX9_findPlan_182 : decode cX9_findPlan 182 = .ok (.getfield 71, 3) := by decide +kernel
theorem dX9_findPlan_185 : decode cX9_findPlan 185 = .ok (.iload 5, 2) := by decide +kernel
theorem dX9_findPlan_187 : decode cX9_findPlan 187 = .ok (.iload 7, 2) := by decide +kernel
theorem dX9_findPlan_189 : decode cX9_findPlan 189 = .ok (.iastore, 1) := by decide +kernel
theorem dX9_findPlan_190 : decode cX9_findPlan 190 = .ok (.aload_n 0, 1) := by decide +kernel
theorem dX9_findPlan_191 : decode cX9_findPlan 191 = .ok (.iload_n 1, 1) := by decide +kernel
theorem dX9_findPlan_192 : decode cX9_findPlan 192 = .ok (.iload 5, 2) := by decide +kernel
theorem dX9_findPlan_194 : decode cX9_findPlan 194 = .ok (.invokevirtual 140, 3) := by decide +kernel
theorem dX9_findPlan_197 : decode cX9_findPlan 197 = .ok (.aload_n 0, 1) := by decide +kernel
theorem dX9_findPlan_198 : decode cX9_findPlan 198 = .ok (.getfield 80, 3) := by decide +kernel
theorem dX9_findPlan_201 : decode cX9_findPlan 201 = .ok (.iload 5, 2) := by decide +kernel
theorem dX9_findPlan_203 : decode cX9_findPlan 203 = .ok (.iconst 0, 1) := by decide +kernel
theorem dX9_findPlan_204 : decode cX9_findPlan 204 = .ok (.iastore, 1) := by decide +kernel
theorem dX9_findPlan_205 : decode cX9_findPlan 205 = .ok (.iinc 5 1, 3) := by decide +kernel
theorem dX9_findPlan_208 : decode cX9_findPlan 208 = .ok (.aload_n 0, 1) := by decide +kernel
theorem dX9_findPlan_209 : decode cX9_findPlan 209 = .ok (.iload 5, 2) := by decide +kernel
theorem dX9_findPlan_211 : decode cX9_findPlan 211 = .ok (.invokevirtual 144, 3) := by decide +kernel
theorem dX9_findPlan_214 : decode cX9_findPlan 214 = .ok (.goto (-136), 3) := by decide +kernel
theorem dX9_findPlan_217 : decode cX9_findPlan 217 = .ok (.return_, 1) := by decide +kernel
theorem dX9_whyNot_0 : decode cX9_whyNot 0 = .ok (.aload_n 0, 1) := by decide +kernel
theorem dX9_whyNot_1 : decode cX9_whyNot 1 = .ok (.iload_n 1, 1) := by decide +kernel
theorem dX9_whyNot_2 : decode cX9_whyNot 2 = .ok (.invokevirtual 111, 3) := by decide +kernel
theorem dX9_whyNot_5 : decode cX9_whyNot 5 = .ok (.ifCond .eq 21, 3) := by decide +kernel
theorem dX9_whyNot_8 : decode cX9_whyNot 8 = .ok (.aload_n 0, 1) := by decide +kernel
theorem dX9_whyNot_9 : decode cX9_whyNot 9 = .ok (.iload_n 2, 1) := by decide +kernel
theorem dX9_whyNot_10 : decode cX9_whyNot 10 = .ok (.invokevirtual 152, 3) := by decide +kernel
theorem dX9_whyNot_13 : decode cX9_whyNot 13 = .ok (.ifCond .eq 13, 3) := by decide +kernel
theorem dX9_whyNot_16 : decode cX9_whyNot 16 = .ok (.iload_n 3, 1) := by decide +kernel
theorem dX9_whyNot_17 : decode cX9_whyNot 17 = .ok (.iconst 1, 1) := by decide +kernel
theorem dX9_whyNot_18 : decode cX9_whyNot 18 = .ok (.bipush 6, 2) := by decide +kernel
theorem dX9_whyNot_20 : decode cX9_whyNot 20 = .ok (.invokestatic 93, 3) := by decide +kernel
theorem dX9_whyNot_23 : decode cX9_whyNot 23 = .ok (.ifCond .ne 5, 3) := by decide +kernel
theorem dX9_whyNot_26 : decode cX9_whyNot 26 = .ok (.iconst 1, 1) := by decide +kernel
theorem dX9_whyNot_27 : decode cX9_whyNot 27 = .ok (.ireturn, 1) := by decide +kernel
theorem dX9_whyNot_28 : decode cX9_whyNot 28 = .ok (.aload_n 0, 1) := by decide +kernel
theorem dX9_whyNot_29 : decode cX9_whyNot 29 = .ok (.iload_n 1, 1) := by decide +kernel
theorem dX9_whyNot_30 : decode cX9_whyNot 30 = .ok (.iload_n 2, 1) := by decide +kernel
theorem dX9_whyNot_31 : decode cX9_whyNot 31 = .ok (.bipush 100, 2) := by decide +kernel
theorem dX9_whyNot_33 : decode cX9_whyNot 33 = .ok (.idiv, 1) := by decide +kernel
theorem dX9_whyNot_34 : decode cX9_whyNot 34 = .ok (.iload_n 2, 1) := by decide +kernel
theorem dX9_whyNot_35 : decode cX9_whyNot 35 = .ok (.bipush 100, 2) := by decide +kernel
theorem dX9_whyNot_37 : decode cX9_whyNot 37 = .ok (.irem, 1) := by decide +kernel
theorem dX9_whyNot_38 : decode cX9_whyNot 38 = .ok (.invokevirtual 124, 3) := by decide +kernel
theorem dX9_whyNot_41 : decode cX9_whyNot 41 = .ok (.ifCond .eq 7, 3) := by decide +kernel
theorem dX9_whyNot_44 : decode cX9_whyNot 44 = .ok (.iconst 0, 1) := by decide +kernel
theorem dX9_whyNot_45 : decode cX9_whyNot 45 = .ok (.goto 4, 3) := by decide +kernel
theorem dX9_whyNot_48 : decode cX9_whyNot 48 = .ok (.iconst 3, 1) := by decide +kernel
theorem dX9_whyNot_49 : decode cX9_whyNot 49 = .ok (.ireturn, 1) := by decide +kernel
theorem dX9_plan_0 : decode cX9_plan 0 = .ok (.aload_n 0, 1) := by decide +kernel
theorem dX9_plan_1 : decode cX9_plan 1 = .ok (.iload_n 1, 1) := by decide +kernel
theorem dX9_plan_2 : decode cX9_plan 2 = .ok (.iload_n 2, 1) := by decide +kernel
theorem dX9_plan_3 : decode cX9_plan 3 = .ok (.iload_n 3, 1) := by decide +kernel
theorem dX9_plan_4 : decode cX9_plan 4 = .ok (.invokevirtual 155, 3) := by decide +kernel
theorem dX9_plan_7 : decode cX9_plan 7 = .ok (.istore 4, 2) := by decide +kernel
theorem dX9_plan_9 : decode cX9_plan 9 = .ok (.iload 4, 2) := by decide +kernel
theorem dX9_plan_11 : decode cX9_plan 11 = .ok (.ifCond .eq 10, 3) := by decide +kernel
theorem dX9_plan_14 : decode cX9_plan 14 = .ok (.aload_n 0, 1) := by decide +kernel
theorem dX9_plan_15 : decode cX9_plan 15 = .ok (.iload 4, 2) := by decide +kernel
theorem dX9_plan_17 : decode cX9_plan 17 = .ok (.invokevirtual 107, 3) := by decide +kernel
theorem dX9_plan_20 : decode cX9_plan 20 = .ok (.ireturn, 1) := by decide +kernel
theorem dX9_plan_21 : decode cX9_plan 21 = .ok (.aload_n 0, 1) := by decide +kernel
theorem dX9_plan_22 : decode cX9_plan 22 = .ok (.iload_n 1, 1) := by decide +kernel
theorem dX9_plan_23 : decode cX9_plan 23 = .ok (.iload_n 2, 1) := by decide +kernel
theorem dX9_plan_24 : decode cX9_plan 24 = .ok (.iload_n 3, 1) := by decide +kernel
theorem dX9_plan_25 : decode cX9_plan 25 = .ok (.invokevirtual 158, 3) := by decide +kernel
theorem dX9_plan_28 : decode cX9_plan 28 = .ok (.aload_n 0, 1) := by decide +kernel
theorem dX9_plan_29 : decode cX9_plan 29 = .ok (.getfield 134, 3) := by decide +kernel
theorem dX9_plan_32 : decode cX9_plan 32 = .ok (.ireturn, 1) := by decide +kernel
theorem dX9_stop_0 : decode cX9_stop 0 = .ok (.aload_n 0, 1) := by decide +kernel
theorem dX9_stop_1 : decode cX9_stop 1 = .ok (.iload_n 1, 1) := by decide +kernel
theorem dX9_stop_2 : decode cX9_stop 2 = .ok (.iload_n 2, 1) := by decide +kernel
theorem dX9_stop_3 : decode cX9_stop 3 = .ok (.iload_n 3, 1) := by decide +kernel
theorem dX9_stop_4 : decode cX9_stop 4 = .ok (.invokevirtual 155, 3) := by decide +kernel
theorem dX9_stop_7 : decode cX9_stop 7 = .ok (.istore 5, 2) := by decide +kernel
theorem dX9_stop_9 : decode cX9_stop 9 = .ok (.iload 5, 2) := by decide +kernel
theorem dX9_stop_11 : decode cX9_stop 11 = .ok (.ifCond .eq 10, 3) := by decide +kernel
theorem dX9_stop_14 : decode cX9_stop 14 = .ok (.aload_n 0, 1) := by decide +kernel
theorem dX9_stop_15 : decode cX9_stop 15 = .ok (.iload 5, 2) := by decide +kernel
theorem dX9_stop_17 : decode cX9_stop 17 = .ok (.invokevirtual 107, 3) := by decide +kernel
theorem dX9_stop_20 : decode cX9_stop 20 = .ok (.ireturn, 1) := by decide +kernel
theorem dX9_stop_21 : decode cX9_stop 21 = .ok (.aload_n 0, 1) := by decide +kernel
theorem dX9_stop_22 : decode cX9_stop 22 = .ok (.iload_n 1, 1) := by decide +kernel
theorem dX9_stop_23 : decode cX9_stop 23 = .ok (.iload_n 2, 1) := by decide +kernel
theorem dX9_stop_24 : decode cX9_stop 24 = .ok (.iload_n 3, 1) := by decide +kernel
theorem dX9_stop_25 : decode cX9_stop 25 = .ok (.invokevirtual 158, 3) := by decide +kernel
theorem dX9_stop_28 : decode cX9_stop 28 = .ok (.iload 4, 2) := by decide +kernel
theorem dX9_stop_30 : decode cX9_stop 30 = .ok (.iconst 0, 1) := by decide +kernel
theorem dX9_stop_31 : decode cX9_stop 31 = .ok (.aload_n 0, 1) := by decide +kernel
theorem dX9_stop_32 : decode cX9_stop 32 = .ok (.getfield 131, 3) := by decide +kernel
theorem dX9_stop_35 : decode cX9_stop 35 = .ok (.iconst 1, 1) := by decide +kernel
theorem dX9_stop_36 : decode cX9_stop 36 = .ok (.isub, 1) := by decide +kernel
theorem dX9_stop_37 : decode cX9_stop 37 = .ok (.invokestatic 93, 3) := by decide +kernel
theorem dX9_stop_40 : decode cX9_stop 40 = .ok (.ifCond .eq 24, 3) := by decide +kernel
theorem dX9_stop_43 : decode cX9_stop 43 = .ok (.bipush 100, 2) := by decide +kernel
theorem dX9_stop_45 : decode cX9_stop 45 = .ok (.aload_n 0, 1) := by decide +kernel
theorem dX9_stop_46 : decode cX9_stop 46 = .ok (.getfield 83, 3) := by decide +kernel
theorem dX9_stop_49 : decode cX9_stop 49 = .ok (.iload 4, 2) := by decide +kernel
theorem dX9_stop_51 : decode cX9_stop 51 = .ok (.iaload, 1) := by decide +kernel
theorem dX9_stop_52 : decode cX9_stop 52 = .ok (.imul, 1) := by decide +kernel
theorem dX9_stop_53 : decode cX9_stop 53 = .ok (.aload_n 0, 1) := by decide +kernel
theorem dX9_stop_54 : decode cX9_stop 54 = .ok (.getfield 86, 3) := by decide +kernel
theorem dX9_stop_57 : decode cX9_stop 57 = .ok (.iload 4, 2) := by decide +kernel
theorem dX9_stop_59 : decode cX9_stop 59 = .ok (.iaload, 1) := by decide +kernel
theorem dX9_stop_60 : decode cX9_stop 60 = .ok (.iadd, 1) := by decide +kernel
theorem dX9_stop_61 : decode cX9_stop 61 = .ok (.goto 8, 3) := by decide +kernel
theorem dX9_stop_64 : decode cX9_stop 64 = .ok (.aload_n 0, 1) := by decide +kernel
theorem dX9_stop_65 : decode cX9_stop 65 = .ok (.iconst 2, 1) := by decide +kernel
theorem dX9_stop_66 : decode cX9_stop 66 = .ok (.invokevirtual 107, 3) := by decide +kernel
theorem dX9_stop_69 : decode cX9_stop 69 = .ok (.ireturn, 1) := by decide +kernel
theorem dX9_left_0 : decode cX9_left 0 = .ok (.aload_n 0, 1) := by decide +kernel
theorem dX9_left_1 : decode cX9_left 1 = .ok (.iload_n 1, 1) := by decide +kernel
theorem dX9_left_2 : decode cX9_left 2 = .ok (.iload_n 2, 1) := by decide +kernel
theorem dX9_left_3 : decode cX9_left 3 = .ok (.iload_n 3, 1) := by decide +kernel
theorem dX9_left_4 : decode cX9_left 4 = .ok (.invokevirtual 155, 3) := by decide +kernel
theorem dX9_left_7 : decode cX9_left 7 = .ok (.istore 4, 2) := by decide +kernel
theorem dX9_left_9 : decode cX9_left 9 = .ok (.iload 4, 2) := by decide +kernel
theorem dX9_left_11 : decode cX9_left 11 = .ok (.ifCond .eq 10, 3) := by decide +kernel
theorem dX9_left_14 : decode cX9_left 14 = .ok (.aload_n 0, 1) := by decide +kernel
theorem dX9_left_15 : decode cX9_left 15 = .ok (.iload 4, 2) := by decide +kernel
theorem dX9_left_17 : decode cX9_left 17 = .ok (.invokevirtual 107, 3) := by decide +kernel
theorem dX9_left_20 : decode cX9_left 20 = .ok (.ireturn, 1) := by decide +kernel
theorem dX9_left_21 : decode cX9_left 21 = .ok (.aload_n 0, 1) := by decide +kernel
theorem dX9_left_22 : decode cX9_left 22 = .ok (.iload_n 1, 1) := by decide +kernel
theorem dX9_left_23 : decode cX9_left 23 = .ok (.iload_n 2, 1) := by decide +kernel
theorem dX9_left_24 : decode cX9_left 24 = .ok (.iload_n 3, 1) := by decide +kernel
theorem dX9_left_25 : decode cX9_left 25 = .ok (.invokevirtual 158, 3) := by decide +kernel
theorem dX9_left_28 : decode cX9_left 28 = .ok (.aload_n 0, 1) := by decide +kernel
theorem dX9_left_29 : decode cX9_left 29 = .ok (.getfield 137, 3) := by decide +kernel
theorem dX9_left_32 : decode cX9_left 32 = .ok (.ireturn, 1) := by decide +kernel
theorem dX9_ahead_0 : decode cX9_ahead 0 = .ok (.iload_n 2, 1) := by decide +kernel
theorem dX9_ahead_1 : decode cX9_ahead 1 = .ok (.iconst 1, 1) := by decide +kernel
theorem dX9_ahead_2 : decode cX9_ahead 2 = .ok (.isub, 1) := by decide +kernel
theorem dX9_ahead_3 : decode cX9_ahead 3 = .ok (.istore_n 3, 1) := by decide +kernel
theorem dX9_ahead_4 : decode cX9_ahead 4 = .ok (.iload_n 3, 1) := by decide +kernel
theorem dX9_ahead_5 : decode cX9_ahead 5 = .ok (.ifCond .lt 19, 3) := by decide +kernel
theorem dX9_ahead_8 : decode cX9_ahead 8 = .ok (.aload_n 0, 1) := by decide +kernel
theorem dX9_ahead_9 : decode cX9_ahead 9 = .ok (.getfield 41, 3) := by decide +kernel
theorem dX9_ahead_12 : decode cX9_ahead 12 = .ok (.iload_n 3, 1) := by decide +kernel
theorem dX9_ahead_13 : decode cX9_ahead 13 = .ok (.iaload, 1) := by decide +kernel
theorem dX9_ahead_14 : decode cX9_ahead 14 = .ok (.iload_n 1, 1) := by decide +kernel
theorem dX9_ahead_15 : decode cX9_ahead 15 = .ok (.if_icmp .eq 9, 3) := by decide +kernel
theorem dX9_ahead_18 : decode cX9_ahead 18 = .ok (.iinc 3 (-1), 3) := by decide +kernel
theorem dX9_ahead_21 : decode cX9_ahead 21 = .ok (.goto (-17), 3) := by decide +kernel
theorem dX9_ahead_24 : decode cX9_ahead 24 = .ok (.iload_n 3, 1) := by decide +kernel
theorem dX9_ahead_25 : decode cX9_ahead 25 = .ok (.ireturn, 1) := by decide +kernel
theorem dX9_stand_0 : decode cX9_stand 0 = .ok (.aload_n 0, 1) := by decide +kernel
theorem dX9_stand_1 : decode cX9_stand 1 = .ok (.iload_n 1, 1) := by decide +kernel
theorem dX9_stand_2 : decode cX9_stand 2 = .ok (.invokevirtual 111, 3) := by decide +kernel
theorem dX9_stand_5 : decode cX9_stand 5 = .ok (.ifCond .eq 21, 3) := by decide +kernel
theorem dX9_stand_8 : decode cX9_stand 8 = .ok (.aload_n 0, 1) := by decide +kernel
theorem dX9_stand_9 : decode cX9_stand 9 = .ok (.iload_n 2, 1) := by decide +kernel
theorem dX9_stand_10 : decode cX9_stand 10 = .ok (.invokevirtual 152, 3) := by decide +kernel
theorem dX9_stand_13 : decode cX9_stand 13 = .ok (.ifCond .eq 13, 3) := by decide +kernel
theorem dX9_stand_16 : decode cX9_stand 16 = .ok (.iload_n 3, 1) := by decide +kernel
theorem dX9_stand_17 : decode cX9_stand 17 = .ok (.iconst 0, 1) := by decide +kernel
theorem dX9_stand_18 : decode cX9_stand 18 = .ok (.bipush 99, 2) := by decide +kernel
theorem dX9_stand_20 : decode cX9_stand 20 = .ok (.invokestatic 93, 3) := by decide +kernel
theorem dX9_stand_23 : decode cX9_stand 23 = .ok (.ifCond .ne 9, 3) := by decide +kernel
theorem dX9_stand_26 : decode cX9_stand 26 = .ok (.aload_n 0, 1) := by decide +kernel
theorem dX9_stand_27 : decode cX9_stand 27 = .ok (.iconst 1, 1) := by decide +kernel
theorem dX9_stand_28 : decode cX9_stand 28 = .ok (.invokevirtual 107, 3) := by decide +kernel
theorem dX9_stand_31 : decode cX9_stand 31 = .ok (.ireturn, 1) := by decide +kernel
theorem dX9_stand_32 : decode cX9_stand 32 = .ok (.aload_n 0, 1) := by decide +kernel
theorem dX9_stand_33 : decode cX9_stand 33 = .ok (.iload_n 1, 1) := by decide +kernel
theorem dX9_stand_34 : decode cX9_stand 34 = .ok (.aload_n 0, 1) := by decide +kernel
theorem dX9_stand_35 : decode cX9_stand 35 = .ok (.getfield 162, 3) := by decide +kernel
theorem dX9_stand_38 : decode cX9_stand 38 = .ok (.invokevirtual 165, 3) := by decide +kernel
theorem dX9_stand_41 : decode cX9_stand 41 = .ok (.istore 4, 2) := by decide +kernel
theorem dX9_stand_43 : decode cX9_stand 43 = .ok (.iload 4, 2) := by decide +kernel
theorem dX9_stand_45 : decode cX9_stand 45 = .ok (.ifCond .lt 23, 3) := by decide +kernel
theorem dX9_stand_48 : decode cX9_stand 48 = .ok (.iload_n 2, 1) := by decide +kernel
theorem dX9_stand_49 : decode cX9_stand 49 = .ok (.bipush 100, 2) := by decide +kernel
theorem dX9_stand_51 : decode cX9_stand 51 = .ok (.irem, 1) := by decide +kernel
theorem dX9_stand_52 : decode cX9_stand 52 = .ok (.aload_n 0, 1) := by decide +kernel
theorem dX9_stand_53 : decode cX9_stand 53 = .ok (.getfield 47, 3) := by decide +kernel
theorem dX9_stand_56 : decode cX9_stand 56 = .ok (.iload 4, 2) := by decide +kernel
theorem dX9_stand_58 : decode cX9_stand 58 = .ok (.iaload, 1) := by decide +kernel
theorem dX9_stand_59 : decode cX9_stand 59 = .ok (.if_icmp .gt 9, 3) := by decide +kernel
theorem dX9_stand_62 : decode cX9_stand 62 = .ok (.aload_n 0, 1) := by decide +kernel
theorem dX9_stand_63 : decode cX9_stand 63 = .ok (.iconst 3, 1) := by decide +kernel
theorem dX9_stand_64 : decode cX9_stand 64 = .ok (.invokevirtual 107, 3) := by decide +kernel
theorem dX9_stand_67 : decode cX9_stand 67 = .ok (.ireturn, 1) := by decide +kernel
theorem dX9_stand_68 : decode cX9_stand 68 = .ok (.aload_n 0, 1) := by decide +kernel
theorem dX9_stand_69 : decode cX9_stand 69 = .ok (.getfield 162, 3) := by decide +kernel
theorem dX9_stand_72 : decode cX9_stand 72 = .ok (.bipush 24, 2) := by decide +kernel
theorem dX9_stand_74 : decode cX9_stand 74 = .ok (.if_icmp .ne 9, 3) := by decide +kernel
theorem dX9_stand_77 : decode cX9_stand 77 = .ok (.aload_n 0, 1) := by decide +kernel
theorem dX9_stand_78 : decode cX9_stand 78 = .ok (.iconst 4, 1) := by decide +kernel
theorem dX9_stand_79 : decode cX9_stand 79 = .ok (.invokevirtual 107, 3) := by decide +kernel
theorem dX9_stand_82 : decode cX9_stand 82 = .ok (.ireturn, 1) := by decide +kernel
theorem dX9_stand_83 : decode cX9_stand 83 = .ok (.aload_n 0, 1) := by decide +kernel
theorem dX9_stand_84 : decode cX9_stand 84 = .ok (.getfield 41, 3) := by decide +kernel
theorem dX9_stand_87 : decode cX9_stand 87 = .ok (.aload_n 0, 1) := by decide +kernel
theorem dX9_stand_88 : decode cX9_stand 88 = .ok (.getfield 162, 3) := by decide +kernel
theorem dX9_stand_91 : decode cX9_stand 91 = .ok (.iload_n 1, 1) := by decide +kernel
theorem dX9_stand_92 : decode cX9_stand 92 = .ok (.iastore, 1) := by decide +kernel
theorem dX9_stand_93 : decode cX9_stand 93 = .ok (.aload_n 0, 1) := by decide +kernel
theorem dX9_stand_94 : decode cX9_stand 94 = .ok (.getfield 44, 3) := by decide +kernel
theorem dX9_stand_97 : decode cX9_stand 97 = .ok (.aload_n 0, 1) := by decide +kernel
theorem dX9_stand_98 : decode cX9_stand 98 = .ok (.getfield 162, 3) := by decide +kernel
theorem dX9_stand_101 : decode cX9_stand 101 = .ok (.iload_n 2, 1) := by decide +kernel
theorem dX9_stand_102 : decode cX9_stand 102 = .ok (.bipush 100, 2) := by decide +kernel
theorem dX9_stand_104 : decode cX9_stand 104 = .ok (.idiv, 1) := by decide +kernel
theorem dX9_stand_105 : decode cX9_stand 105 = .ok (.iastore, 1) := by decide +kernel
theorem dX9_stand_106 : decode cX9_stand 106 = .ok (.aload_n 0, 1) := by decide +kernel
theorem dX9_stand_107 : decode cX9_stand 107 = .ok (.getfield 47, 3) := by decide +kernel
theorem dX9_stand_110 : decode cX9_stand 110 = .ok (.aload_n 0, 1) := by decide +kernel
theorem dX9_stand_111 : decode cX9_stand 111 = .ok (.getfield 162, 3) := by decide +kernel
theorem dX9_stand_114 : decode cX9_stand 114 = .ok (.iload_n 2, 1) := by decide +kernel
theorem dX9_stand_115 : decode cX9_stand 115 = .ok (.bipush 100, 2) := by decide +kernel
end
section
theorem dX9_stand_117 : decode cX9_stand 117 = .ok (.irem, 1) := by decide +kernel
theorem dX9_stand_118 : decode cX9_stand 118 = .ok (.iastore, 1) := by decide +kernel
theorem dX9_stand_119 : decode cX9_stand 119 = .ok (.aload_n 0, 1) := by decide +kernel
theorem dX9_stand_120 : decode cX9_stand 120 = .ok (.getfield 50, 3) := by decide +kernel
theorem dX9_stand_123 : decode cX9_stand 123 = .ok (.aload_n 0, 1) := by decide +kernel
theorem dX9_stand_124 : decode cX9_stand 124 = .ok (.getfield 162, 3) := by decide +kernel
theorem dX9_stand_127 : decode cX9_stand 127 = .ok (.iload_n 3, 1) := by decide +kernel
theorem dX9_stand_128 : decode cX9_stand 128 = .ok (.iastore, 1) := by decide +kernel
theorem dX9_stand_129 : decode cX9_stand 129 = .ok (.aload_n 0, 1) := by decide +kernel
theorem dX9_stand_130 : decode cX9_stand 130 = .ok (.dup, 1) := by decide +kernel
theorem dX9_stand_131 : decode cX9_stand 131 = .ok (.getfield 162, 3) := by decide +kernel
theorem dX9_stand_134 : decode cX9_stand 134 = .ok (.iconst 1, 1) := by decide +kernel
theorem dX9_stand_135 : decode cX9_stand 135 = .ok (.iadd, 1) := by decide +kernel
theorem dX9_stand_136 : decode cX9_stand 136 = .ok (.putfield 162, 3) := by decide +kernel
theorem dX9_stand_139 : decode cX9_stand 139 = .ok (.aload_n 0, 1) := by decide +kernel
theorem dX9_stand_140 : decode cX9_stand 140 = .ok (.getfield 162, 3) := by decide +kernel
theorem dX9_stand_143 : decode cX9_stand 143 = .ok (.iconst 1, 1) := by decide +kernel
theorem dX9_stand_144 : decode cX9_stand 144 = .ok (.isub, 1) := by decide +kernel
theorem dX9_stand_145 : decode cX9_stand 145 = .ok (.ireturn, 1) := by decide +kernel
theorem dX9_wrongOf_0 : decode cX9_wrongOf 0 = .ok (.aload_n 0, 1) := by decide +kernel
theorem dX9_wrongOf_1 : decode cX9_wrongOf 1 = .ok (.getfield 41, 3) := by decide +kernel
theorem dX9_wrongOf_4 : decode cX9_wrongOf 4 = .ok (.iload_n 1, 1) := by decide +kernel
theorem dX9_wrongOf_5 : decode cX9_wrongOf 5 = .ok (.iaload, 1) := by decide +kernel
theorem dX9_wrongOf_6 : decode cX9_wrongOf 6 = .ok (.istore_n 2, 1) := by decide +kernel
theorem dX9_wrongOf_7 : decode cX9_wrongOf 7 = .ok (.aload_n 0, 1) := by decide +kernel
theorem dX9_wrongOf_8 : decode cX9_wrongOf 8 = .ok (.getfield 44, 3) := by decide +kernel
theorem dX9_wrongOf_11 : decode cX9_wrongOf 11 = .ok (.iload_n 1, 1) := by decide +kernel
theorem dX9_wrongOf_12 : decode cX9_wrongOf 12 = .ok (.iaload, 1) := by decide +kernel
theorem dX9_wrongOf_13 : decode cX9_wrongOf 13 = .ok (.istore_n 3, 1) := by decide +kernel
theorem dX9_wrongOf_14 : decode cX9_wrongOf 14 = .ok (.aload_n 0, 1) := by decide +kernel
theorem dX9_wrongOf_15 : decode cX9_wrongOf 15 = .ok (.iload_n 2, 1) := by decide +kernel
theorem dX9_wrongOf_16 : decode cX9_wrongOf 16 = .ok (.iload_n 3, 1) := by decide +kernel
theorem dX9_wrongOf_17 : decode cX9_wrongOf 17 = .ok (.invokevirtual 117, 3) := by decide +kernel
theorem dX9_wrongOf_20 : decode cX9_wrongOf 20 = .ok (.ifCond .ne 5, 3) := by decide +kernel
theorem dX9_wrongOf_23 : decode cX9_wrongOf 23 = .ok (.iconst 1, 1) := by decide +kernel
theorem dX9_wrongOf_24 : decode cX9_wrongOf 24 = .ok (.ireturn, 1) := by decide +kernel
theorem dX9_wrongOf_25 : decode cX9_wrongOf 25 = .ok (.aload_n 0, 1) := by decide +kernel
theorem dX9_wrongOf_26 : decode cX9_wrongOf 26 = .ok (.iload_n 3, 1) := by decide +kernel
theorem dX9_wrongOf_27 : decode cX9_wrongOf 27 = .ok (.aload_n 0, 1) := by decide +kernel
theorem dX9_wrongOf_28 : decode cX9_wrongOf 28 = .ok (.getfield 47, 3) := by decide +kernel
theorem dX9_wrongOf_31 : decode cX9_wrongOf 31 = .ok (.iload_n 1, 1) := by decide +kernel
theorem dX9_wrongOf_32 : decode cX9_wrongOf 32 = .ok (.iaload, 1) := by decide +kernel
theorem dX9_wrongOf_33 : decode cX9_wrongOf 33 = .ok (.invokevirtual 121, 3) := by decide +kernel
theorem dX9_wrongOf_36 : decode cX9_wrongOf 36 = .ok (.ifCond .eq 5, 3) := by decide +kernel
theorem dX9_wrongOf_39 : decode cX9_wrongOf 39 = .ok (.iconst 2, 1) := by decide +kernel
theorem dX9_wrongOf_40 : decode cX9_wrongOf 40 = .ok (.ireturn, 1) := by decide +kernel
theorem dX9_wrongOf_41 : decode cX9_wrongOf 41 = .ok (.aload_n 0, 1) := by decide +kernel
theorem dX9_wrongOf_42 : decode cX9_wrongOf 42 = .ok (.getfield 50, 3) := by decide +kernel
theorem dX9_wrongOf_45 : decode cX9_wrongOf 45 = .ok (.iload_n 1, 1) := by decide +kernel
theorem dX9_wrongOf_46 : decode cX9_wrongOf 46 = .ok (.iaload, 1) := by decide +kernel
theorem dX9_wrongOf_47 : decode cX9_wrongOf 47 = .ok (.aload_n 0, 1) := by decide +kernel
theorem dX9_wrongOf_48 : decode cX9_wrongOf 48 = .ok (.getfield 16, 3) := by decide +kernel
theorem dX9_wrongOf_51 : decode cX9_wrongOf 51 = .ok (.if_icmp .le 5, 3) := by decide +kernel
theorem dX9_wrongOf_54 : decode cX9_wrongOf 54 = .ok (.iconst 3, 1) := by decide +kernel
theorem dX9_wrongOf_55 : decode cX9_wrongOf 55 = .ok (.ireturn, 1) := by decide +kernel
theorem dX9_wrongOf_56 : decode cX9_wrongOf 56 = .ok (.aload_n 0, 1) := by decide +kernel
theorem dX9_wrongOf_57 : decode cX9_wrongOf 57 = .ok (.iload_n 2, 1) := by decide +kernel
theorem dX9_wrongOf_58 : decode cX9_wrongOf 58 = .ok (.iload_n 1, 1) := by decide +kernel
theorem dX9_wrongOf_59 : decode cX9_wrongOf 59 = .ok (.invokevirtual 165, 3) := by decide +kernel
theorem dX9_wrongOf_62 : decode cX9_wrongOf 62 = .ok (.istore 4, 2) := by decide +kernel
theorem dX9_wrongOf_64 : decode cX9_wrongOf 64 = .ok (.iload 4, 2) := by decide +kernel
theorem dX9_wrongOf_66 : decode cX9_wrongOf 66 = .ok (.ifCond .lt 35, 3) := by decide +kernel
theorem dX9_wrongOf_69 : decode cX9_wrongOf 69 = .ok (.aload_n 0, 1) := by decide +kernel
theorem dX9_wrongOf_70 : decode cX9_wrongOf 70 = .ok (.getfield 47, 3) := by decide +kernel
theorem dX9_wrongOf_73 : decode cX9_wrongOf 73 = .ok (.iload_n 1, 1) := by decide +kernel
theorem dX9_wrongOf_74 : decode cX9_wrongOf 74 = .ok (.iaload, 1) := by decide +kernel
theorem dX9_wrongOf_75 : decode cX9_wrongOf 75 = .ok (.aload_n 0, 1) := by decide +kernel
theorem dX9_wrongOf_76 : decode cX9_wrongOf 76 = .ok (.getfield 47, 3) := by decide +kernel
theorem dX9_wrongOf_79 : decode cX9_wrongOf 79 = .ok (.iload 4, 2) := by decide +kernel
theorem dX9_wrongOf_81 : decode cX9_wrongOf 81 = .ok (.iaload, 1) := by decide +kernel
theorem dX9_wrongOf_82 : decode cX9_wrongOf 82 = .ok (.aload_n 0, 1) := by decide +kernel
theorem dX9_wrongOf_83 : decode cX9_wrongOf 83 = .ok (.iload_n 2, 1) := by decide +kernel
theorem dX9_wrongOf_84 : decode cX9_wrongOf 84 = .ok (.aload_n 0, 1) := by decide +kernel
theorem dX9_wrongOf_85 : decode cX9_wrongOf 85 = .ok (.getfield 44, 3) := by decide +kernel
theorem dX9_wrongOf_88 : decode cX9_wrongOf 88 = .ok (.iload 4, 2) := by decide +kernel
theorem dX9_wrongOf_90 : decode cX9_wrongOf 90 = .ok (.iaload, 1) := by decide +kernel
theorem dX9_wrongOf_91 : decode cX9_wrongOf 91 = .ok (.iload_n 3, 1) := by decide +kernel
theorem dX9_wrongOf_92 : decode cX9_wrongOf 92 = .ok (.invokevirtual 148, 3) := by decide +kernel
theorem dX9_wrongOf_95 : decode cX9_wrongOf 95 = .ok (.iadd, 1) := by decide +kernel
theorem dX9_wrongOf_96 : decode cX9_wrongOf 96 = .ok (.if_icmp .ge 5, 3) := by decide +kernel
theorem dX9_wrongOf_99 : decode cX9_wrongOf 99 = .ok (.iconst 4, 1) := by decide +kernel
theorem dX9_wrongOf_100 : decode cX9_wrongOf 100 = .ok (.ireturn, 1) := by decide +kernel
theorem dX9_wrongOf_101 : decode cX9_wrongOf 101 = .ok (.iconst 0, 1) := by decide +kernel
theorem dX9_wrongOf_102 : decode cX9_wrongOf 102 = .ok (.istore 5, 2) := by decide +kernel
theorem dX9_wrongOf_104 : decode cX9_wrongOf 104 = .ok (.iload 5, 2) := by decide +kernel
theorem dX9_wrongOf_106 : decode cX9_wrongOf 106 = .ok (.iload_n 1, 1) := by decide +kernel
theorem dX9_wrongOf_107 : decode cX9_wrongOf 107 = .ok (.if_icmp .ge 49, 3) := by decide +kernel
theorem dX9_wrongOf_110 : decode cX9_wrongOf 110 = .ok (.aload_n 0, 1) := by decide +kernel
theorem dX9_wrongOf_111 : decode cX9_wrongOf 111 = .ok (.getfield 41, 3) := by decide +kernel
theorem dX9_wrongOf_114 : decode cX9_wrongOf 114 = .ok (.iload 5, 2) := by decide +kernel
theorem dX9_wrongOf_116 : decode cX9_wrongOf 116 = .ok (.iaload, 1) := by decide +kernel
theorem dX9_wrongOf_117 : decode cX9_wrongOf 117 = .ok (.iload_n 2, 1) := by decide +kernel
theorem dX9_wrongOf_118 : decode cX9_wrongOf 118 = .ok (.if_icmp .eq 32, 3) := by decide +kernel
theorem dX9_wrongOf_121 : decode cX9_wrongOf 121 = .ok (.aload_n 0, 1) := by decide +kernel
theorem dX9_wrongOf_122 : decode cX9_wrongOf 122 = .ok (.getfield 44, 3) := by decide +kernel
theorem dX9_wrongOf_125 : decode cX9_wrongOf 125 = .ok (.iload 5, 2) := by decide +kernel
theorem dX9_wrongOf_127 : decode cX9_wrongOf 127 = .ok (.iaload, 1) := by decide +kernel
theorem dX9_wrongOf_128 : decode cX9_wrongOf 128 = .ok (.iload_n 3, 1) := by decide +kernel
theorem dX9_wrongOf_129 : decode cX9_wrongOf 129 = .ok (.if_icmp .ne 21, 3) := by decide +kernel
theorem dX9_wrongOf_132 : decode cX9_wrongOf 132 = .ok (.aload_n 0, 1) := by decide +kernel
theorem dX9_wrongOf_133 : decode cX9_wrongOf 133 = .ok (.getfield 47, 3) := by decide +kernel
theorem dX9_wrongOf_136 : decode cX9_wrongOf 136 = .ok (.iload 5, 2) := by decide +kernel
theorem dX9_wrongOf_138 : decode cX9_wrongOf 138 = .ok (.iaload, 1) := by decide +kernel
theorem dX9_wrongOf_139 : decode cX9_wrongOf 139 = .ok (.aload_n 0, 1) := by decide +kernel
theorem dX9_wrongOf_140 : decode cX9_wrongOf 140 = .ok (.getfield 47, 3) := by decide +kernel
theorem dX9_wrongOf_143 : decode cX9_wrongOf 143 = .ok (.iload_n 1, 1) := by decide +kernel
theorem dX9_wrongOf_144 : decode cX9_wrongOf 144 = .ok (.iaload, 1) := by decide +kernel
theorem dX9_wrongOf_145 : decode cX9_wrongOf 145 = .ok (.if_icmp .ne 5, 3) := by decide +kernel
theorem dX9_wrongOf_148 : decode cX9_wrongOf 148 = .ok (.iconst 5, 1) := by decide +kernel
theorem dX9_wrongOf_149 : decode cX9_wrongOf 149 = .ok (.ireturn, 1) := by decide +kernel
theorem dX9_wrongOf_150 : decode cX9_wrongOf 150 = .ok (.iinc 5 1, 3) := by decide +kernel
theorem dX9_wrongOf_153 : decode cX9_wrongOf 153 = .ok (.goto (-49), 3) := by decide +kernel
theorem dX9_wrongOf_156 : decode cX9_wrongOf 156 = .ok (.iconst 0, 1) := by decide +kernel
theorem dX9_wrongOf_157 : decode cX9_wrongOf 157 = .ok (.ireturn, 1) := by decide +kernel
theorem dX9_wrong_0 : decode cX9_wrong 0 = .ok (.iload_n 1, 1) := by decide +kernel
theorem dX9_wrong_1 : decode cX9_wrong 1 = .ok (.iconst 0, 1) := by decide +kernel
theorem dX9_wrong_2 : decode cX9_wrong 2 = .ok (.aload_n 0, 1) := by decide +kernel
theorem dX9_wrong_3 : decode cX9_wrong 3 = .ok (.getfield 162, 3) := by decide +kernel
theorem dX9_wrong_6 : decode cX9_wrong 6 = .ok (.iconst 1, 1) := by decide +kernel
theorem dX9_wrong_7 : decode cX9_wrong 7 = .ok (.isub, 1) := by decide +kernel
theorem dX9_wrong_8 : decode cX9_wrong 8 = .ok (.invokestatic 93, 3) := by decide +kernel
theorem dX9_wrong_11 : decode cX9_wrong 11 = .ok (.ifCond .eq 11, 3) := by decide +kernel
theorem dX9_wrong_14 : decode cX9_wrong 14 = .ok (.aload_n 0, 1) := by decide +kernel
theorem dX9_wrong_15 : decode cX9_wrong 15 = .ok (.iload_n 1, 1) := by decide +kernel
theorem dX9_wrong_16 : decode cX9_wrong 16 = .ok (.invokevirtual 168, 3) := by decide +kernel
theorem dX9_wrong_19 : decode cX9_wrong 19 = .ok (.goto 8, 3) := by decide +kernel
theorem dX9_wrong_22 : decode cX9_wrong 22 = .ok (.aload_n 0, 1) := by decide +kernel
theorem dX9_wrong_23 : decode cX9_wrong 23 = .ok (.iconst 1, 1) := by decide +kernel
theorem dX9_wrong_24 : decode cX9_wrong 24 = .ok (.invokevirtual 107, 3) := by decide +kernel
theorem dX9_wrong_27 : decode cX9_wrong 27 = .ok (.ireturn, 1) := by decide +kernel
theorem dX9_clear_0 : decode cX9_clear 0 = .ok (.iconst 0, 1) := by decide +kernel
theorem dX9_clear_1 : decode cX9_clear 1 = .ok (.istore_n 1, 1) := by decide +kernel
theorem dX9_clear_2 : decode cX9_clear 2 = .ok (.iconst 0, 1) := by decide +kernel
theorem dX9_clear_3 : decode cX9_clear 3 = .ok (.istore_n 2, 1) := by decide +kernel
theorem dX9_clear_4 : decode cX9_clear 4 = .ok (.iload_n 2, 1) := by decide +kernel
theorem dX9_clear_5 : decode cX9_clear 5 = .ok (.aload_n 0, 1) := by decide +kernel
theorem dX9_clear_6 : decode cX9_clear 6 = .ok (.getfield 162, 3) := by decide +kernel
theorem dX9_clear_9 : decode cX9_clear 9 = .ok (.if_icmp .ge 25, 3) := by decide +kernel
theorem dX9_clear_12 : decode cX9_clear 12 = .ok (.iload_n 1, 1) := by decide +kernel
theorem dX9_clear_13 : decode cX9_clear 13 = .ok (.aload_n 0, 1) := by decide +kernel
theorem dX9_clear_14 : decode cX9_clear 14 = .ok (.iload_n 2, 1) := by decide +kernel
theorem dX9_clear_15 : decode cX9_clear 15 = .ok (.invokevirtual 168, 3) := by decide +kernel
theorem dX9_clear_18 : decode cX9_clear 18 = .ok (.ifCond .ne 7, 3) := by decide +kernel
theorem dX9_clear_21 : decode cX9_clear 21 = .ok (.iconst 0, 1) := by decide +kernel
theorem dX9_clear_22 : decode cX9_clear 22 = .ok (.goto 4, 3) := by decide +kernel
theorem dX9_clear_25 : decode cX9_clear 25 = .ok (.iconst 1, 1) := by decide +kernel
theorem dX9_clear_26 : decode cX9_clear 26 = .ok (.iadd, 1) := by decide +kernel
theorem dX9_clear_27 : decode cX9_clear 27 = .ok (.istore_n 1, 1) := by decide +kernel
theorem dX9_clear_28 : decode cX9_clear 28 = .ok (.iinc 2 1, 3) := by decide +kernel
theorem dX9_clear_31 : decode cX9_clear 31 = .ok (.goto (-27), 3) := by decide +kernel
theorem dX9_clear_34 : decode cX9_clear 34 = .ok (.aload_n 0, 1) := by decide +kernel
theorem dX9_clear_35 : decode cX9_clear 35 = .ok (.iconst 0, 1) := by decide +kernel
theorem dX9_clear_36 : decode cX9_clear 36 = .ok (.putfield 162, 3) := by decide +kernel
theorem dX9_clear_39 : decode cX9_clear 39 = .ok (.iload_n 1, 1) := by decide +kernel
theorem dX9_clear_40 : decode cX9_clear 40 = .ok (.ireturn, 1) := by decide +kernel
theorem dX9_holderOf_0 : decode cX9_holderOf 0 = .ok (.iconst (-1), 1) := by decide +kernel
theorem dX9_holderOf_1 : decode cX9_holderOf 1 = .ok (.istore_n 2, 1) := by decide +kernel
theorem dX9_holderOf_2 : decode cX9_holderOf 2 = .ok (.iconst 0, 1) := by decide +kernel
theorem dX9_holderOf_3 : decode cX9_holderOf 3 = .ok (.istore_n 3, 1) := by decide +kernel
theorem dX9_holderOf_4 : decode cX9_holderOf 4 = .ok (.iconst 0, 1) := by decide +kernel
theorem dX9_holderOf_5 : decode cX9_holderOf 5 = .ok (.istore 4, 2) := by decide +kernel
theorem dX9_holderOf_7 : decode cX9_holderOf 7 = .ok (.iload 4, 2) := by decide +kernel
theorem dX9_holderOf_9 : decode cX9_holderOf 9 = .ok (.aload_n 0, 1) := by decide +kernel
theorem dX9_holderOf_10 : decode cX9_holderOf 10 = .ok (.getfield 97, 3) := by decide +kernel
theorem dX9_holderOf_13 : decode cX9_holderOf 13 = .ok (.if_icmp .ge 78, 3) := by decide +kernel
theorem dX9_holderOf_16 : decode cX9_holderOf 16 = .ok (.iconst 0, 1) := by decide +kernel
theorem dX9_holderOf_17 : decode cX9_holderOf 17 = .ok (.istore 5, 2) := by decide +kernel
theorem dX9_holderOf_19 : decode cX9_holderOf 19 = .ok (.iconst 0, 1) := by decide +kernel
theorem dX9_holderOf_20 : decode cX9_holderOf 20 = .ok (.istore 6, 2) := by decide +kernel
theorem dX9_holderOf_22 : decode cX9_holderOf 22 = .ok (.iload 6, 2) := by decide +kernel
theorem dX9_holderOf_24 : decode cX9_holderOf 24 = .ok (.aload_n 0, 1) := by decide +kernel
theorem dX9_holderOf_25 : decode cX9_holderOf 25 = .ok (.getfield 162, 3) := by decide +kernel
theorem dX9_holderOf_28 : decode cX9_holderOf 28 = .ok (.if_icmp .ge 42, 3) := by decide +kernel
theorem dX9_holderOf_31 : decode cX9_holderOf 31 = .ok (.iload 5, 2) := by decide +kernel
theorem dX9_holderOf_33 : decode cX9_holderOf 33 = .ok (.aload_n 0, 1) := by decide +kernel
theorem dX9_holderOf_34 : decode cX9_holderOf 34 = .ok (.getfield 41, 3) := by decide +kernel
theorem dX9_holderOf_37 : decode cX9_holderOf 37 = .ok (.iload 6, 2) := by decide +kernel
theorem dX9_holderOf_39 : decode cX9_holderOf 39 = .ok (.iaload, 1) := by decide +kernel
theorem dX9_holderOf_40 : decode cX9_holderOf 40 = .ok (.iload 4, 2) := by decide +kernel
theorem dX9_holderOf_42 : decode cX9_holderOf 42 = .ok (.if_icmp .ne 18, 3) := by decide +kernel
theorem dX9_holderOf_45 : decode cX9_holderOf 45 = .ok (.aload_n 0, 1) := by decide +kernel
theorem dX9_holderOf_46 : decode cX9_holderOf 46 = .ok (.getfield 44, 3) := by decide +kernel
theorem dX9_holderOf_49 : decode cX9_holderOf 49 = .ok (.iload 6, 2) := by decide +kernel
theorem dX9_holderOf_51 : decode cX9_holderOf 51 = .ok (.iaload, 1) := by decide +kernel
theorem dX9_holderOf_52 : decode cX9_holderOf 52 = .ok (.iload_n 1, 1) := by decide +kernel
theorem dX9_holderOf_53 : decode cX9_holderOf 53 = .ok (.if_icmp .ne 7, 3) := by decide +kernel
theorem dX9_holderOf_56 : decode cX9_holderOf 56 = .ok (.iconst 1, 1) := by decide +kernel
theorem dX9_holderOf_57 : decode cX9_holderOf 57 = .ok (.goto 4, 3) := by decide +kernel
theorem dX9_holderOf_60 : decode cX9_holderOf 60 = .ok (.iconst 0, 1) := by decide +kernel
theorem dX9_holderOf_61 : decode cX9_holderOf 61 = .ok (.iadd, 1) := by decide +kernel
theorem dX9_holderOf_62 : decode cX9_holderOf 62 = .ok (.istore 5, 2) := by decide +kernel
theorem dX9_holderOf_64 : decode cX9_holderOf 64 = .ok (.iinc 6 1, 3) := by decide +kernel
theorem dX9_holderOf_67 : decode cX9_holderOf 67 = .ok (.goto (-45), 3) := by decide +kernel
theorem dX9_holderOf_70 : decode cX9_holderOf 70 = .ok (.iload 5, 2) := by decide +kernel
theorem dX9_holderOf_72 : decode cX9_holderOf 72 = .ok (.iload_n 3, 1) := by decide +kernel
theorem dX9_holderOf_73 : decode cX9_holderOf 73 = .ok (.if_icmp .gt 6, 3) := by decide +kernel
theorem dX9_holderOf_76 : decode cX9_holderOf 76 = .ok (.goto 9, 3) := by decide +kernel
theorem dX9_holderOf_79 : decode cX9_holderOf 79 = .ok (.iload 4, 2) := by decide +kernel
theorem dX9_holderOf_81 : decode cX9_holderOf 81 = .ok (.istore_n 2, 1) := by decide +kernel
theorem dX9_holderOf_82 : decode cX9_holderOf 82 = .ok (.iload 5, 2) := by decide +kernel
theorem dX9_holderOf_84 : decode cX9_holderOf 84 = .ok (.istore_n 3, 1) := by decide +kernel
theorem dX9_holderOf_85 : decode cX9_holderOf 85 = .ok (.iinc 4 1, 3) := by decide +kernel
theorem dX9_holderOf_88 : decode cX9_holderOf 88 = .ok (.goto (-81), 3) := by decide +kernel
theorem dX9_holderOf_91 : decode cX9_holderOf 91 = .ok (.iload_n 2, 1) := by decide +kernel
theorem dX9_holderOf_92 : decode cX9_holderOf 92 = .ok (.ireturn, 1) := by decide +kernel
theorem dX9_holder_0 : decode cX9_holder 0 = .ok (.aload_n 0, 1) := by decide +kernel
theorem dX9_holder_1 : decode cX9_holder 1 = .ok (.iload_n 1, 1) := by decide +kernel
theorem dX9_holder_2 : decode cX9_holder 2 = .ok (.invokevirtual 100, 3) := by decide +kernel
theorem dX9_holder_5 : decode cX9_holder 5 = .ok (.ifCond .ne 9, 3) := by decide +kernel
theorem dX9_holder_8 : decode cX9_holder 8 = .ok (.aload_n 0, 1) := by decide +kernel
theorem dX9_holder_9 : decode cX9_holder 9 = .ok (.iconst 1, 1) := by decide +kernel
theorem dX9_holder_10 : decode cX9_holder 10 = .ok (.invokevirtual 107, 3) := by decide +kernel
theorem dX9_holder_13 : decode cX9_holder 13 = .ok (.ireturn, 1) := by decide +kernel
theorem dX9_holder_14 : decode cX9_holder 14 = .ok (.aload_n 0, 1) := by decide +kernel
theorem dX9_holder_15 : decode cX9_holder 15 = .ok (.iload_n 1, 1) := by decide +kernel
theorem dX9_holder_16 : decode cX9_holder 16 = .ok (.invokevirtual 171, 3) := by decide +kernel
theorem dX9_holder_19 : decode cX9_holder 19 = .ok (.istore_n 2, 1) := by decide +kernel
theorem dX9_holder_20 : decode cX9_holder 20 = .ok (.iload_n 2, 1) := by decide +kernel
theorem dX9_holder_21 : decode cX9_holder 21 = .ok (.ifCond .ge 11, 3) := by decide +kernel
theorem dX9_holder_24 : decode cX9_holder 24 = .ok (.aload_n 0, 1) := by decide +kernel
theorem dX9_holder_25 : decode cX9_holder 25 = .ok (.iconst 2, 1) := by decide +kernel
theorem dX9_holder_26 : decode cX9_holder 26 = .ok (.invokevirtual 107, 3) := by decide +kernel
theorem dX9_holder_29 : decode cX9_holder 29 = .ok (.goto 4, 3) := by decide +kernel
theorem dX9_holder_32 : decode cX9_holder 32 = .ok (.iload_n 2, 1) := by decide +kernel
theorem dX9_holder_33 : decode cX9_holder 33 = .ok (.ireturn, 1) := by decide +kernel
theorem dX9_getsOf_0 : decode cX9_getsOf 0 = .ok (.aload_n 0, 1) := by decide +kernel
theorem dX9_getsOf_1 : decode cX9_getsOf 1 = .ok (.iload_n 3, 1) := by decide +kernel
theorem dX9_getsOf_2 : decode cX9_getsOf 2 = .ok (.iload 5, 2) := by decide +kernel
theorem dX9_getsOf_4 : decode cX9_getsOf 4 = .ok (.invokevirtual 127, 3) := by decide +kernel
theorem dX9_getsOf_7 : decode cX9_getsOf 7 = .ok (.istore 6, 2) := by decide +kernel
theorem dX9_getsOf_9 : decode cX9_getsOf 9 = .ok (.iload_n 3, 1) := by decide +kernel
theorem dX9_getsOf_10 : decode cX9_getsOf 10 = .ok (.iload 4, 2) := by decide +kernel
theorem dX9_getsOf_12 : decode cX9_getsOf 12 = .ok (.if_icmp .eq 6, 3) := by decide +kernel
theorem dX9_getsOf_15 : decode cX9_getsOf 15 = .ok (.iload 6, 2) := by decide +kernel
theorem dX9_getsOf_17 : decode cX9_getsOf 17 = .ok (.ireturn, 1) := by decide +kernel
theorem dX9_getsOf_18 : decode cX9_getsOf 18 = .ok (.aload_n 0, 1) := by decide +kernel
theorem dX9_getsOf_19 : decode cX9_getsOf 19 = .ok (.iload_n 3, 1) := by decide +kernel
theorem dX9_getsOf_20 : decode cX9_getsOf 20 = .ok (.invokevirtual 171, 3) := by decide +kernel
theorem dX9_getsOf_23 : decode cX9_getsOf 23 = .ok (.istore 7, 2) := by decide +kernel
theorem dX9_getsOf_25 : decode cX9_getsOf 25 = .ok (.iload 7, 2) := by decide +kernel
theorem dX9_getsOf_27 : decode cX9_getsOf 27 = .ok (.iload_n 1, 1) := by decide +kernel
theorem dX9_getsOf_28 : decode cX9_getsOf 28 = .ok (.if_icmp .ne 12, 3) := by decide +kernel
theorem dX9_getsOf_31 : decode cX9_getsOf 31 = .ok (.iconst 2, 1) := by decide +kernel
theorem dX9_getsOf_32 : decode cX9_getsOf 32 = .ok (.iload 6, 2) := by decide +kernel
theorem dX9_getsOf_34 : decode cX9_getsOf 34 = .ok (.imul, 1) := by decide +kernel
theorem dX9_getsOf_35 : decode cX9_getsOf 35 = .ok (.iconst 3, 1) := by decide +kernel
theorem dX9_getsOf_36 : decode cX9_getsOf 36 = .ok (.idiv, 1) := by decide +kernel
theorem dX9_getsOf_37 : decode cX9_getsOf 37 = .ok (.goto 20, 3) := by decide +kernel
theorem dX9_getsOf_40 : decode cX9_getsOf 40 = .ok (.iload 7, 2) := by decide +kernel
theorem dX9_getsOf_42 : decode cX9_getsOf 42 = .ok (.iload_n 2, 1) := by decide +kernel
theorem dX9_getsOf_43 : decode cX9_getsOf 43 = .ok (.if_icmp .ne 10, 3) := by decide +kernel
theorem dX9_getsOf_46 : decode cX9_getsOf 46 = .ok (.iload 6, 2) := by decide +kernel
theorem dX9_getsOf_48 : decode cX9_getsOf 48 = .ok (.iconst 3, 1) := by decide +kernel
theorem dX9_getsOf_49 : decode cX9_getsOf 49 = .ok (.idiv, 1) := by decide +kernel
theorem dX9_getsOf_50 : decode cX9_getsOf 50 = .ok (.goto 7, 3) := by decide +kernel
theorem dX9_getsOf_53 : decode cX9_getsOf 53 = .ok (.iload 6, 2) := by decide +kernel
theorem dX9_getsOf_55 : decode cX9_getsOf 55 = .ok (.iconst 2, 1) := by decide +kernel
theorem dX9_getsOf_56 : decode cX9_getsOf 56 = .ok (.idiv, 1) := by decide +kernel
theorem dX9_getsOf_57 : decode cX9_getsOf 57 = .ok (.ireturn, 1) := by decide +kernel
theorem dX9_gets_0 : decode cX9_gets 0 = .ok (.aload_n 0, 1) := by decide +kernel
theorem dX9_gets_1 : decode cX9_gets 1 = .ok (.iload_n 1, 1) := by decide +kernel
theorem dX9_gets_2 : decode cX9_gets 2 = .ok (.invokevirtual 111, 3) := by decide +kernel
theorem dX9_gets_5 : decode cX9_gets 5 = .ok (.ifCond .eq 50, 3) := by decide +kernel
theorem dX9_gets_8 : decode cX9_gets 8 = .ok (.aload_n 0, 1) := by decide +kernel
theorem dX9_gets_9 : decode cX9_gets 9 = .ok (.iload_n 2, 1) := by decide +kernel
theorem dX9_gets_10 : decode cX9_gets 10 = .ok (.invokevirtual 111, 3) := by decide +kernel
theorem dX9_gets_13 : decode cX9_gets 13 = .ok (.ifCond .eq 42, 3) := by decide +kernel
theorem dX9_gets_16 : decode cX9_gets 16 = .ok (.iload_n 1, 1) := by decide +kernel
theorem dX9_gets_17 : decode cX9_gets 17 = .ok (.iload_n 2, 1) := by decide +kernel
theorem dX9_gets_18 : decode cX9_gets 18 = .ok (.if_icmp .eq 37, 3) := by decide +kernel
theorem dX9_gets_21 : decode cX9_gets 21 = .ok (.iload_n 3, 1) := by decide +kernel
theorem dX9_gets_22 : decode cX9_gets 22 = .ok (.ifCond .lt 33, 3) := by decide +kernel
theorem dX9_gets_25 : decode cX9_gets 25 = .ok (.aload_n 0, 1) := by decide +kernel
theorem dX9_gets_26 : decode cX9_gets 26 = .ok (.iload_n 3, 1) := by decide +kernel
theorem dX9_gets_27 : decode cX9_gets 27 = .ok (.bipush 10, 2) := by decide +kernel
theorem dX9_gets_29 : decode cX9_gets 29 = .ok (.idiv, 1) := by decide +kernel
theorem dX9_gets_30 : decode cX9_gets 30 = .ok (.invokevirtual 100, 3) := by decide +kernel
theorem dX9_gets_33 : decode cX9_gets 33 = .ok (.ifCond .eq 22, 3) := by decide +kernel
theorem dX9_gets_36 : decode cX9_gets 36 = .ok (.aload_n 0, 1) := by decide +kernel
theorem dX9_gets_37 : decode cX9_gets 37 = .ok (.iload_n 3, 1) := by decide +kernel
theorem dX9_gets_38 : decode cX9_gets 38 = .ok (.bipush 10, 2) := by decide +kernel
theorem dX9_gets_40 : decode cX9_gets 40 = .ok (.irem, 1) := by decide +kernel
theorem dX9_gets_41 : decode cX9_gets 41 = .ok (.invokevirtual 100, 3) := by decide +kernel
theorem dX9_gets_44 : decode cX9_gets 44 = .ok (.ifCond .eq 11, 3) := by decide +kernel
theorem dX9_gets_47 : decode cX9_gets 47 = .ok (.iload 4, 2) := by decide +kernel
theorem dX9_gets_49 : decode cX9_gets 49 = .ok (.invokestatic 104, 3) := by decide +kernel
theorem dX9_gets_52 : decode cX9_gets 52 = .ok (.ifCond .ne 9, 3) := by decide +kernel
theorem dX9_gets_55 : decode cX9_gets 55 = .ok (.aload_n 0, 1) := by decide +kernel
theorem dX9_gets_56 : decode cX9_gets 56 = .ok (.iconst 1, 1) := by decide +kernel
theorem dX9_gets_57 : decode cX9_gets 57 = .ok (.invokevirtual 107, 3) := by decide +kernel
theorem dX9_gets_60 : decode cX9_gets 60 = .ok (.ireturn, 1) := by decide +kernel
theorem dX9_gets_61 : decode cX9_gets 61 = .ok (.aload_n 0, 1) := by decide +kernel
theorem dX9_gets_62 : decode cX9_gets 62 = .ok (.iload_n 1, 1) := by decide +kernel
theorem dX9_gets_63 : decode cX9_gets 63 = .ok (.iload_n 3, 1) := by decide +kernel
theorem dX9_gets_64 : decode cX9_gets 64 = .ok (.bipush 10, 2) := by decide +kernel
theorem dX9_gets_66 : decode cX9_gets 66 = .ok (.idiv, 1) := by decide +kernel
theorem dX9_gets_67 : decode cX9_gets 67 = .ok (.iload 4, 2) := by decide +kernel
theorem dX9_gets_69 : decode cX9_gets 69 = .ok (.invokevirtual 124, 3) := by decide +kernel
theorem dX9_gets_72 : decode cX9_gets 72 = .ok (.ifCond .eq 17, 3) := by decide +kernel
theorem dX9_gets_75 : decode cX9_gets 75 = .ok (.aload_n 0, 1) := by decide +kernel
theorem dX9_gets_76 : decode cX9_gets 76 = .ok (.iload_n 2, 1) := by decide +kernel
theorem dX9_gets_77 : decode cX9_gets 77 = .ok (.iload_n 3, 1) := by decide +kernel
theorem dX9_gets_78 : decode cX9_gets 78 = .ok (.bipush 10, 2) := by decide +kernel
theorem dX9_gets_80 : decode cX9_gets 80 = .ok (.irem, 1) := by decide +kernel
theorem dX9_gets_81 : decode cX9_gets 81 = .ok (.iload 4, 2) := by decide +kernel
theorem dX9_gets_83 : decode cX9_gets 83 = .ok (.invokevirtual 124, 3) := by decide +kernel
theorem dX9_gets_86 : decode cX9_gets 86 = .ok (.ifCond .ne 9, 3) := by decide +kernel
theorem dX9_gets_89 : decode cX9_gets 89 = .ok (.aload_n 0, 1) := by decide +kernel
theorem dX9_gets_90 : decode cX9_gets 90 = .ok (.iconst 3, 1) := by decide +kernel
theorem dX9_gets_91 : decode cX9_gets 91 = .ok (.invokevirtual 107, 3) := by decide +kernel
theorem dX9_gets_94 : decode cX9_gets 94 = .ok (.ireturn, 1) := by decide +kernel
theorem dX9_gets_95 : decode cX9_gets 95 = .ok (.aload_n 0, 1) := by decide +kernel
theorem dX9_gets_96 : decode cX9_gets 96 = .ok (.iload_n 1, 1) := by decide +kernel
theorem dX9_gets_97 : decode cX9_gets 97 = .ok (.iload_n 2, 1) := by decide +kernel
theorem dX9_gets_98 : decode cX9_gets 98 = .ok (.iload_n 3, 1) := by decide +kernel
theorem dX9_gets_99 : decode cX9_gets 99 = .ok (.bipush 10, 2) := by decide +kernel
theorem dX9_gets_101 : decode cX9_gets 101 = .ok (.idiv, 1) := by decide +kernel
theorem dX9_gets_102 : decode cX9_gets 102 = .ok (.iload_n 3, 1) := by decide +kernel
theorem dX9_gets_103 : decode cX9_gets 103 = .ok (.bipush 10, 2) := by decide +kernel
theorem dX9_gets_105 : decode cX9_gets 105 = .ok (.irem, 1) := by decide +kernel
theorem dX9_gets_106 : decode cX9_gets 106 = .ok (.iload 4, 2) := by decide +kernel
theorem dX9_gets_108 : decode cX9_gets 108 = .ok (.invokevirtual 174, 3) := by decide +kernel
theorem dX9_gets_111 : decode cX9_gets 111 = .ok (.ireturn, 1) := by decide +kernel
theorem dX9_isBalance_0 : decode cX9_isBalance 0 = .ok (.iconst 0, 1) := by decide +kernel
theorem dX9_isBalance_1 : decode cX9_isBalance 1 = .ok (.istore 6, 2) := by decide +kernel
theorem dX9_isBalance_3 : decode cX9_isBalance 3 = .ok (.iload 6, 2) := by decide +kernel
theorem dX9_isBalance_5 : decode cX9_isBalance 5 = .ok (.aload_n 0, 1) := by decide +kernel
theorem dX9_isBalance_6 : decode cX9_isBalance 6 = .ok (.getfield 90, 3) := by decide +kernel
theorem dX9_isBalance_9 : decode cX9_isBalance 9 = .ok (.if_icmp .ge 88, 3) := by decide +kernel
theorem dX9_isBalance_12 : decode cX9_isBalance 12 = .ok (.aload_n 0, 1) := by decide +kernel
theorem dX9_isBalance_13 : decode cX9_isBalance 13 = .ok (.iload_n 1, 1) := by decide +kernel
theorem dX9_isBalance_14 : decode cX9_isBalance 14 = .ok (.iload 6, 2) := by decide +kernel
theorem dX9_isBalance_16 : decode cX9_isBalance 16 = .ok (.iload 5, 2) := by decide +kernel
theorem dX9_isBalance_18 : decode cX9_isBalance 18 = .ok (.invokevirtual 124, 3) := by decide +kernel
theorem dX9_isBalance_21 : decode cX9_isBalance 21 = .ok (.ifCond .eq 31, 3) := by decide +kernel
theorem dX9_isBalance_24 : decode cX9_isBalance 24 = .ok (.aload_n 0, 1) := by decide +kernel
theorem dX9_isBalance_25 : decode cX9_isBalance 25 = .ok (.iload_n 1, 1) := by decide +kernel
theorem dX9_isBalance_26 : decode cX9_isBalance 26 = .ok (.iload_n 2, 1) := by decide +kernel
theorem dX9_isBalance_27 : decode cX9_isBalance 27 = .ok (.iload 6, 2) := by decide +kernel
theorem dX9_isBalance_29 : decode cX9_isBalance 29 = .ok (.iload 4, 2) := by decide +kernel
theorem dX9_isBalance_31 : decode cX9_isBalance 31 = .ok (.iload 5, 2) := by decide +kernel
theorem dX9_isBalance_33 : decode cX9_isBalance 33 = .ok (.invokevirtual 174, 3) := by decide +kernel
theorem dX9_isBalance_36 : decode cX9_isBalance 36 = .ok (.aload_n 0, 1) := by decide +kernel
theorem dX9_isBalance_37 : decode cX9_isBalance 37 = .ok (.iload_n 1, 1) := by decide +kernel
theorem dX9_isBalance_38 : decode cX9_isBalance 38 = .ok (.iload_n 2, 1) := by decide +kernel
theorem dX9_isBalance_39 : decode cX9_isBalance 39 = .ok (.iload_n 3, 1) := by decide +kernel
theorem dX9_isBalance_40 : decode cX9_isBalance 40 = .ok (.iload 4, 2) := by decide +kernel
theorem dX9_isBalance_42 : decode cX9_isBalance 42 = .ok (.iload 5, 2) := by decide +kernel
theorem dX9_isBalance_44 : decode cX9_isBalance 44 = .ok (.invokevirtual 174, 3) := by decide +kernel
theorem dX9_isBalance_47 : decode cX9_isBalance 47 = .ok (.if_icmp .le 5, 3) := by decide +kernel
theorem dX9_isBalance_50 : decode cX9_isBalance 50 = .ok (.iconst 0, 1) := by decide +kernel
theorem dX9_isBalance_51 : decode cX9_isBalance 51 = .ok (.ireturn, 1) := by decide +kernel
theorem dX9_isBalance_52 : decode cX9_isBalance 52 = .ok (.aload_n 0, 1) := by decide +kernel
theorem dX9_isBalance_53 : decode cX9_isBalance 53 = .ok (.iload_n 2, 1) := by decide +kernel
theorem dX9_isBalance_54 : decode cX9_isBalance 54 = .ok (.iload 6, 2) := by decide +kernel
theorem dX9_isBalance_56 : decode cX9_isBalance 56 = .ok (.iload 5, 2) := by decide +kernel
theorem dX9_isBalance_58 : decode cX9_isBalance 58 = .ok (.invokevirtual 124, 3) := by decide +kernel
theorem dX9_isBalance_61 : decode cX9_isBalance 61 = .ok (.ifCond .eq 30, 3) := by decide +kernel
theorem dX9_isBalance_64 : decode cX9_isBalance 64 = .ok (.aload_n 0, 1) := by decide +kernel
theorem dX9_isBalance_65 : decode cX9_isBalance 65 = .ok (.iload_n 2, 1) := by decide +kernel
theorem dX9_isBalance_66 : decode cX9_isBalance 66 = .ok (.iload_n 1, 1) := by decide +kernel
theorem dX9_isBalance_67 : decode cX9_isBalance 67 = .ok (.iload 6, 2) := by decide +kernel
theorem dX9_isBalance_69 : decode cX9_isBalance 69 = .ok (.iload_n 3, 1) := by decide +kernel
theorem dX9_isBalance_70 : decode cX9_isBalance 70 = .ok (.iload 5, 2) := by decide +kernel
theorem dX9_isBalance_72 : decode cX9_isBalance 72 = .ok (.invokevirtual 174, 3) := by decide +kernel
theorem dX9_isBalance_75 : decode cX9_isBalance 75 = .ok (.aload_n 0, 1) := by decide +kernel
theorem dX9_isBalance_76 : decode cX9_isBalance 76 = .ok (.iload_n 2, 1) := by decide +kernel
theorem dX9_isBalance_77 : decode cX9_isBalance 77 = .ok (.iload_n 1, 1) := by decide +kernel
theorem dX9_isBalance_78 : decode cX9_isBalance 78 = .ok (.iload 4, 2) := by decide +kernel
theorem dX9_isBalance_80 : decode cX9_isBalance 80 = .ok (.iload_n 3, 1) := by decide +kernel
theorem dX9_isBalance_81 : decode cX9_isBalance 81 = .ok (.iload 5, 2) := by decide +kernel
theorem dX9_isBalance_83 : decode cX9_isBalance 83 = .ok (.invokevirtual 174, 3) := by decide +kernel
theorem dX9_isBalance_86 : decode cX9_isBalance 86 = .ok (.if_icmp .le 5, 3) := by decide +kernel
theorem dX9_isBalance_89 : decode cX9_isBalance 89 = .ok (.iconst 0, 1) := by decide +kernel
theorem dX9_isBalance_90 : decode cX9_isBalance 90 = .ok (.ireturn, 1) := by decide +kernel
theorem dX9_isBalance_91 : decode cX9_isBalance 91 = .ok (.iinc 6 1, 3) := by decide +kernel
theorem dX9_isBalance_94 : decode cX9_isBalance 94 = .ok (.goto (-91), 3) := by decide +kernel
theorem dX9_isBalance_97 : decode cX9_isBalance 97 = .ok (.iconst 1, 1) := by decide +kernel
theorem dX9_isBalance_98 : decode cX9_isBalance 98 = .ok (.ireturn, 1) := by decide +kernel
theorem dX9_areTwo_0 : decode cX9_areTwo 0 = .ok (.aload_n 0, 1) := by decide +kernel
theorem dX9_areTwo_1 : decode cX9_areTwo 1 = .ok (.iload_n 1, 1) := by decide +kernel
theorem dX9_areTwo_2 : decode cX9_areTwo 2 = .ok (.invokevirtual 111, 3) := by decide +kernel
theorem dX9_areTwo_5 : decode cX9_areTwo 5 = .ok (.ifCond .eq 27, 3) := by decide +kernel
theorem dX9_areTwo_8 : decode cX9_areTwo 8 = .ok (.aload_n 0, 1) := by decide +kernel
theorem dX9_areTwo_9 : decode cX9_areTwo 9 = .ok (.iload_n 2, 1) := by decide +kernel
theorem dX9_areTwo_10 : decode cX9_areTwo 10 = .ok (.invokevirtual 111, 3) := by decide +kernel
theorem dX9_areTwo_13 : decode cX9_areTwo 13 = .ok (.ifCond .eq 19, 3) := by decide +kernel
theorem dX9_areTwo_16 : decode cX9_areTwo 16 = .ok (.iload_n 1, 1) := by decide +kernel
theorem dX9_areTwo_17 : decode cX9_areTwo 17 = .ok (.iload_n 2, 1) := by decide +kernel
theorem dX9_areTwo_18 : decode cX9_areTwo 18 = .ok (.if_icmp .eq 14, 3) := by decide +kernel
theorem dX9_areTwo_21 : decode cX9_areTwo 21 = .ok (.iload_n 3, 1) := by decide +kernel
theorem dX9_areTwo_22 : decode cX9_areTwo 22 = .ok (.invokestatic 104, 3) := by decide +kernel
theorem dX9_areTwo_25 : decode cX9_areTwo 25 = .ok (.ifCond .eq 7, 3) := by decide +kernel
theorem dX9_areTwo_28 : decode cX9_areTwo 28 = .ok (.iconst 1, 1) := by decide +kernel
theorem dX9_areTwo_29 : decode cX9_areTwo 29 = .ok (.goto 4, 3) := by decide +kernel
theorem dX9_areTwo_32 : decode cX9_areTwo 32 = .ok (.iconst 0, 1) := by decide +kernel
theorem dX9_areTwo_33 : decode cX9_areTwo 33 = .ok (.ireturn, 1) := by decide +kernel
theorem dX9_balance_0 : decode cX9_balance 0 = .ok (.aload_n 0, 1) := by decide +kernel
theorem dX9_balance_1 : decode cX9_balance 1 = .ok (.iload_n 1, 1) := by decide +kernel
theorem dX9_balance_2 : decode cX9_balance 2 = .ok (.iload_n 2, 1) := by decide +kernel
theorem dX9_balance_3 : decode cX9_balance 3 = .ok (.iload_n 3, 1) := by decide +kernel
theorem dX9_balance_4 : decode cX9_balance 4 = .ok (.invokevirtual 178, 3) := by decide +kernel
theorem dX9_balance_7 : decode cX9_balance 7 = .ok (.ifCond .eq 8, 3) := by decide +kernel
theorem dX9_balance_10 : decode cX9_balance 10 = .ok (.iload 4, 2) := by decide +kernel
theorem dX9_balance_12 : decode cX9_balance 12 = .ok (.ifCond .ge 9, 3) := by decide +kernel
theorem dX9_balance_15 : decode cX9_balance 15 = .ok (.aload_n 0, 1) := by decide +kernel
theorem dX9_balance_16 : decode cX9_balance 16 = .ok (.iconst 1, 1) := by decide +kernel
theorem dX9_balance_17 : decode cX9_balance 17 = .ok (.invokevirtual 107, 3) := by decide +kernel
theorem dX9_balance_20 : decode cX9_balance 20 = .ok (.ireturn, 1) := by decide +kernel
theorem dX9_balance_21 : decode cX9_balance 21 = .ok (.iload 4, 2) := by decide +kernel
theorem dX9_balance_23 : decode cX9_balance 23 = .ok (.istore 5, 2) := by decide +kernel
theorem dX9_balance_25 : decode cX9_balance 25 = .ok (.iconst 0, 1) := by decide +kernel
theorem dX9_balance_26 : decode cX9_balance 26 = .ok (.istore 6, 2) := by decide +kernel
theorem dX9_balance_28 : decode cX9_balance 28 = .ok (.iload 6, 2) := by decide +kernel
theorem dX9_balance_30 : decode cX9_balance 30 = .ok (.aload_n 0, 1) := by decide +kernel
theorem dX9_balance_31 : decode cX9_balance 31 = .ok (.getfield 90, 3) := by decide +kernel
theorem dX9_balance_34 : decode cX9_balance 34 = .ok (.if_icmp .ge 83, 3) := by decide +kernel
theorem dX9_balance_37 : decode cX9_balance 37 = .ok (.iconst 0, 1) := by decide +kernel
theorem dX9_balance_38 : decode cX9_balance 38 = .ok (.istore 7, 2) := by decide +kernel
theorem dX9_balance_40 : decode cX9_balance 40 = .ok (.iload 7, 2) := by decide +kernel
theorem dX9_balance_42 : decode cX9_balance 42 = .ok (.aload_n 0, 1) := by decide +kernel
theorem dX9_balance_43 : decode cX9_balance 43 = .ok (.getfield 90, 3) := by decide +kernel
theorem dX9_balance_46 : decode cX9_balance 46 = .ok (.if_icmp .ge 65, 3) := by decide +kernel
theorem dX9_balance_49 : decode cX9_balance 49 = .ok (.aload_n 0, 1) := by decide +kernel
theorem dX9_balance_50 : decode cX9_balance 50 = .ok (.iload_n 1, 1) := by decide +kernel
theorem dX9_balance_51 : decode cX9_balance 51 = .ok (.iload 6, 2) := by decide +kernel
theorem dX9_balance_53 : decode cX9_balance 53 = .ok (.iload_n 3, 1) := by decide +kernel
theorem dX9_balance_54 : decode cX9_balance 54 = .ok (.invokevirtual 124, 3) := by decide +kernel
theorem dX9_balance_57 : decode cX9_balance 57 = .ok (.ifCond .eq 48, 3) := by decide +kernel
theorem dX9_balance_60 : decode cX9_balance 60 = .ok (.aload_n 0, 1) := by decide +kernel
theorem dX9_balance_61 : decode cX9_balance 61 = .ok (.iload_n 2, 1) := by decide +kernel
theorem dX9_balance_62 : decode cX9_balance 62 = .ok (.iload 7, 2) := by decide +kernel
theorem dX9_balance_64 : decode cX9_balance 64 = .ok (.iload_n 3, 1) := by decide +kernel
theorem dX9_balance_65 : decode cX9_balance 65 = .ok (.invokevirtual 124, 3) := by decide +kernel
theorem dX9_balance_68 : decode cX9_balance 68 = .ok (.ifCond .eq 37, 3) := by decide +kernel
theorem dX9_balance_71 : decode cX9_balance 71 = .ok (.aload_n 0, 1) := by decide +kernel
theorem dX9_balance_72 : decode cX9_balance 72 = .ok (.iload_n 1, 1) := by decide +kernel
theorem dX9_balance_73 : decode cX9_balance 73 = .ok (.iload_n 2, 1) := by decide +kernel
theorem dX9_balance_74 : decode cX9_balance 74 = .ok (.iload 6, 2) := by decide +kernel
theorem dX9_balance_76 : decode cX9_balance 76 = .ok (.iload 7, 2) := by decide +kernel
theorem dX9_balance_78 : decode cX9_balance 78 = .ok (.iload_n 3, 1) := by decide +kernel
theorem dX9_balance_79 : decode cX9_balance 79 = .ok (.invokevirtual 181, 3) := by decide +kernel
theorem dX9_balance_82 : decode cX9_balance 82 = .ok (.ifCond .ne 6, 3) := by decide +kernel
theorem dX9_balance_85 : decode cX9_balance 85 = .ok (.goto 20, 3) := by decide +kernel
theorem dX9_balance_88 : decode cX9_balance 88 = .ok (.iload 5, 2) := by decide +kernel
theorem dX9_balance_90 : decode cX9_balance 90 = .ok (.ifCond .ne 12, 3) := by decide +kernel
theorem dX9_balance_93 : decode cX9_balance 93 = .ok (.bipush 10, 2) := by decide +kernel
theorem dX9_balance_95 : decode cX9_balance 95 = .ok (.iload 6, 2) := by decide +kernel
theorem dX9_balance_97 : decode cX9_balance 97 = .ok (.imul, 1) := by decide +kernel
theorem dX9_balance_98 : decode cX9_balance 98 = .ok (.iload 7, 2) := by decide +kernel
theorem dX9_balance_100 : decode cX9_balance 100 = .ok (.iadd, 1) := by decide +kernel
theorem dX9_balance_101 : decode cX9_balance 101 = .ok (.ireturn, 1) := by decide +kernel
theorem dX9_balance_102 : decode cX9_balance 102 = .ok (.iinc 5 (-1), 3) := by decide +kernel
theorem dX9_balance_105 : decode cX9_balance 105 = .ok (.iinc 7 1, 3) := by decide +kernel
theorem dX9_balance_108 : decode cX9_balance 108 = .ok (.goto (-68), 3) := by decide +kernel
theorem dX9_balance_111 : decode cX9_balance 111 = .ok (.iinc 6 1, 3) := by decide +kernel
theorem dX9_balance_114 : decode cX9_balance 114 = .ok (.goto (-86), 3) := by decide +kernel
theorem dX9_balance_117 : decode cX9_balance 117 = .ok (.aload_n 0, 1) := by decide +kernel
theorem dX9_balance_118 : decode cX9_balance 118 = .ok (.iconst 2, 1) := by decide +kernel
theorem dX9_balance_119 : decode cX9_balance 119 = .ok (.invokevirtual 107, 3) := by decide +kernel
theorem dX9_balance_122 : decode cX9_balance 122 = .ok (.ireturn, 1) := by decide +kernel
theorem dX9_together_0 : decode cX9_together 0 = .ok (.aload_n 0, 1) := by decide +kernel
theorem dX9_together_1 : decode cX9_together 1 = .ok (.iload_n 1, 1) := by decide +kernel
theorem dX9_together_2 : decode cX9_together 2 = .ok (.iload_n 2, 1) := by decide +kernel
theorem dX9_together_3 : decode cX9_together 3 = .ok (.iload_n 3, 1) := by decide +kernel
theorem dX9_together_4 : decode cX9_together 4 = .ok (.invokevirtual 178, 3) := by decide +kernel
theorem dX9_together_7 : decode cX9_together 7 = .ok (.ifCond .ne 9, 3) := by decide +kernel
theorem dX9_together_10 : decode cX9_together 10 = .ok (.aload_n 0, 1) := by decide +kernel
theorem dX9_together_11 : decode cX9_together 11 = .ok (.iconst 1, 1) := by decide +kernel
theorem dX9_together_12 : decode cX9_together 12 = .ok (.invokevirtual 107, 3) := by decide +kernel
theorem dX9_together_15 : decode cX9_together 15 = .ok (.ireturn, 1) := by decide +kernel
theorem dX9_together_16 : decode cX9_together 16 = .ok (.iconst (-1), 1) := by decide +kernel
theorem dX9_together_17 : decode cX9_together 17 = .ok (.istore 4, 2) := by decide +kernel
theorem dX9_together_19 : decode cX9_together 19 = .ok (.iconst (-1), 1) := by decide +kernel
theorem dX9_together_20 : decode cX9_together 20 = .ok (.istore 5, 2) := by decide +kernel
theorem dX9_together_22 : decode cX9_together 22 = .ok (.iconst 0, 1) := by decide +kernel
theorem dX9_together_23 : decode cX9_together 23 = .ok (.istore 6, 2) := by decide +kernel
theorem dX9_together_25 : decode cX9_together 25 = .ok (.iload 6, 2) := by decide +kernel
theorem dX9_together_27 : decode cX9_together 27 = .ok (.aload_n 0, 1) := by decide +kernel
theorem dX9_together_28 : decode cX9_together 28 = .ok (.getfield 90, 3) := by decide +kernel
end
section
theorem dX9_together_31 : decode cX9_together 31 = .ok (.if_icmp .ge 101, 3) := by decide +kernel
theorem dX9_together_34 : decode cX9_together 34 = .ok (.iconst 0, 1) := by decide +kernel
theorem dX9_together_35 : decode cX9_together 35 = .ok (.istore 7, 2) := by decide +kernel
theorem dX9_together_37 : decode cX9_together 37 = .ok (.iload 7, 2) := by decide +kernel
theorem dX9_together_39 : decode cX9_together 39 = .ok (.aload_n 0, 1) := by decide +kernel
theorem dX9_together_40 : decode cX9_together 40 = .ok (.getfield 90, 3) := by decide +kernel
theorem dX9_together_43 : decode cX9_together 43 = .ok (.if_icmp .ge 83, 3) := by decide +kernel
theorem dX9_together_46 : decode cX9_together 46 = .ok (.aload_n 0, 1) := by decide +kernel
theorem dX9_together_47 : decode cX9_together 47 = .ok (.iload_n 1, 1) := by decide +kernel
theorem dX9_together_48 : decode cX9_together 48 = .ok (.iload 6, 2) := by decide +kernel
theorem dX9_together_50 : decode cX9_together 50 = .ok (.iload_n 3, 1) := by decide +kernel
theorem dX9_together_51 : decode cX9_together 51 = .ok (.invokevirtual 124, 3) := by decide +kernel
theorem dX9_together_54 : decode cX9_together 54 = .ok (.ifCond .eq 66, 3) := by decide +kernel
theorem dX9_together_57 : decode cX9_together 57 = .ok (.aload_n 0, 1) := by decide +kernel
theorem dX9_together_58 : decode cX9_together 58 = .ok (.iload_n 2, 1) := by decide +kernel
theorem dX9_together_59 : decode cX9_together 59 = .ok (.iload 7, 2) := by decide +kernel
theorem dX9_together_61 : decode cX9_together 61 = .ok (.iload_n 3, 1) := by decide +kernel
theorem dX9_together_62 : decode cX9_together 62 = .ok (.invokevirtual 124, 3) := by decide +kernel
theorem dX9_together_65 : decode cX9_together 65 = .ok (.ifCond .ne 6, 3) := by decide +kernel
theorem dX9_together_68 : decode cX9_together 68 = .ok (.goto 52, 3) := by decide +kernel
theorem dX9_together_71 : decode cX9_together 71 = .ok (.aload_n 0, 1) := by decide +kernel
theorem dX9_together_72 : decode cX9_together 72 = .ok (.iload_n 1, 1) := by decide +kernel
theorem dX9_together_73 : decode cX9_together 73 = .ok (.iload_n 2, 1) := by decide +kernel
theorem dX9_together_74 : decode cX9_together 74 = .ok (.iload 6, 2) := by decide +kernel
theorem dX9_together_76 : decode cX9_together 76 = .ok (.iload 7, 2) := by decide +kernel
theorem dX9_together_78 : decode cX9_together 78 = .ok (.iload_n 3, 1) := by decide +kernel
theorem dX9_together_79 : decode cX9_together 79 = .ok (.invokevirtual 174, 3) := by decide +kernel
theorem dX9_together_82 : decode cX9_together 82 = .ok (.aload_n 0, 1) := by decide +kernel
theorem dX9_together_83 : decode cX9_together 83 = .ok (.iload_n 2, 1) := by decide +kernel
theorem dX9_together_84 : decode cX9_together 84 = .ok (.iload_n 1, 1) := by decide +kernel
theorem dX9_together_85 : decode cX9_together 85 = .ok (.iload 7, 2) := by decide +kernel
theorem dX9_together_87 : decode cX9_together 87 = .ok (.iload 6, 2) := by decide +kernel
theorem dX9_together_89 : decode cX9_together 89 = .ok (.iload_n 3, 1) := by decide +kernel
theorem dX9_together_90 : decode cX9_together 90 = .ok (.invokevirtual 174, 3) := by decide +kernel
theorem dX9_together_93 : decode cX9_together 93 = .ok (.iadd, 1) := by decide +kernel
theorem dX9_together_94 : decode cX9_together 94 = .ok (.istore 8, 2) := by decide +kernel
theorem dX9_together_96 : decode cX9_together 96 = .ok (.iload 8, 2) := by decide +kernel
theorem dX9_together_98 : decode cX9_together 98 = .ok (.iload 5, 2) := by decide +kernel
theorem dX9_together_100 : decode cX9_together 100 = .ok (.if_icmp .gt 6, 3) := by decide +kernel
theorem dX9_together_103 : decode cX9_together 103 = .ok (.goto 17, 3) := by decide +kernel
theorem dX9_together_106 : decode cX9_together 106 = .ok (.bipush 10, 2) := by decide +kernel
theorem dX9_together_108 : decode cX9_together 108 = .ok (.iload 6, 2) := by decide +kernel
theorem dX9_together_110 : decode cX9_together 110 = .ok (.imul, 1) := by decide +kernel
theorem dX9_together_111 : decode cX9_together 111 = .ok (.iload 7, 2) := by decide +kernel
theorem dX9_together_113 : decode cX9_together 113 = .ok (.iadd, 1) := by decide +kernel
theorem dX9_together_114 : decode cX9_together 114 = .ok (.istore 4, 2) := by decide +kernel
theorem dX9_together_116 : decode cX9_together 116 = .ok (.iload 8, 2) := by decide +kernel
theorem dX9_together_118 : decode cX9_together 118 = .ok (.istore 5, 2) := by decide +kernel
theorem dX9_together_120 : decode cX9_together 120 = .ok (.iinc 7 1, 3) := by decide +kernel
theorem dX9_together_123 : decode cX9_together 123 = .ok (.goto (-86), 3) := by decide +kernel
theorem dX9_together_126 : decode cX9_together 126 = .ok (.iinc 6 1, 3) := by decide +kernel
theorem dX9_together_129 : decode cX9_together 129 = .ok (.goto (-104), 3) := by decide +kernel
theorem dX9_together_132 : decode cX9_together 132 = .ok (.iload 4, 2) := by decide +kernel
theorem dX9_together_134 : decode cX9_together 134 = .ok (.ifCond .ge 11, 3) := by decide +kernel
theorem dX9_together_137 : decode cX9_together 137 = .ok (.aload_n 0, 1) := by decide +kernel
theorem dX9_together_138 : decode cX9_together 138 = .ok (.iconst 2, 1) := by decide +kernel
theorem dX9_together_139 : decode cX9_together 139 = .ok (.invokevirtual 107, 3) := by decide +kernel
theorem dX9_together_142 : decode cX9_together 142 = .ok (.goto 5, 3) := by decide +kernel
theorem dX9_together_145 : decode cX9_together 145 = .ok (.iload 4, 2) := by decide +kernel
theorem dX9_together_147 : decode cX9_together 147 = .ok (.ireturn, 1) := by decide +kernel
theorem dX9_credit_0 : decode cX9_credit 0 = .ok (.iload_n 1, 1) := by decide +kernel
theorem dX9_credit_1 : decode cX9_credit 1 = .ok (.iconst 0, 1) := by decide +kernel
theorem dX9_credit_2 : decode cX9_credit 2 = .ok (.bipush 60, 2) := by decide +kernel
theorem dX9_credit_4 : decode cX9_credit 4 = .ok (.invokestatic 93, 3) := by decide +kernel
theorem dX9_credit_7 : decode cX9_credit 7 = .ok (.ifCond .ne 9, 3) := by decide +kernel
theorem dX9_credit_10 : decode cX9_credit 10 = .ok (.aload_n 0, 1) := by decide +kernel
theorem dX9_credit_11 : decode cX9_credit 11 = .ok (.iconst 1, 1) := by decide +kernel
theorem dX9_credit_12 : decode cX9_credit 12 = .ok (.invokevirtual 107, 3) := by decide +kernel
theorem dX9_credit_15 : decode cX9_credit 15 = .ok (.ireturn, 1) := by decide +kernel
theorem dX9_credit_16 : decode cX9_credit 16 = .ok (.aload_n 0, 1) := by decide +kernel
theorem dX9_credit_17 : decode cX9_credit 17 = .ok (.getfield 19, 3) := by decide +kernel
theorem dX9_credit_20 : decode cX9_credit 20 = .ok (.istore_n 2, 1) := by decide +kernel
theorem dX9_credit_21 : decode cX9_credit 21 = .ok (.aload_n 0, 1) := by decide +kernel
theorem dX9_credit_22 : decode cX9_credit 22 = .ok (.iload_n 1, 1) := by decide +kernel
theorem dX9_credit_23 : decode cX9_credit 23 = .ok (.putfield 19, 3) := by decide +kernel
theorem dX9_credit_26 : decode cX9_credit 26 = .ok (.iload_n 2, 1) := by decide +kernel
theorem dX9_credit_27 : decode cX9_credit 27 = .ok (.ireturn, 1) := by decide +kernel
theorem dX9_bill_0 : decode cX9_bill 0 = .ok (.iload_n 1, 1) := by decide +kernel
theorem dX9_bill_1 : decode cX9_bill 1 = .ok (.iconst 1, 1) := by decide +kernel
theorem dX9_bill_2 : decode cX9_bill 2 = .ok (.sipush 10000, 3) := by decide +kernel
theorem dX9_bill_5 : decode cX9_bill 5 = .ok (.invokestatic 93, 3) := by decide +kernel
theorem dX9_bill_8 : decode cX9_bill 8 = .ok (.ifCond .eq 14, 3) := by decide +kernel
theorem dX9_bill_11 : decode cX9_bill 11 = .ok (.iload_n 2, 1) := by decide +kernel
theorem dX9_bill_12 : decode cX9_bill 12 = .ok (.iconst 0, 1) := by decide +kernel
theorem dX9_bill_13 : decode cX9_bill 13 = .ok (.sipush 1000, 3) := by decide +kernel
theorem dX9_bill_16 : decode cX9_bill 16 = .ok (.invokestatic 93, 3) := by decide +kernel
theorem dX9_bill_19 : decode cX9_bill 19 = .ok (.ifCond .ne 9, 3) := by decide +kernel
theorem dX9_bill_22 : decode cX9_bill 22 = .ok (.aload_n 0, 1) := by decide +kernel
theorem dX9_bill_23 : decode cX9_bill 23 = .ok (.iconst 1, 1) := by decide +kernel
theorem dX9_bill_24 : decode cX9_bill 24 = .ok (.invokevirtual 107, 3) := by decide +kernel
theorem dX9_bill_27 : decode cX9_bill 27 = .ok (.ireturn, 1) := by decide +kernel
theorem dX9_bill_28 : decode cX9_bill 28 = .ok (.aload_n 0, 1) := by decide +kernel
theorem dX9_bill_29 : decode cX9_bill 29 = .ok (.getfield 185, 3) := by decide +kernel
theorem dX9_bill_32 : decode cX9_bill 32 = .ok (.bipush 12, 2) := by decide +kernel
theorem dX9_bill_34 : decode cX9_bill 34 = .ok (.if_icmp .ne 9, 3) := by decide +kernel
theorem dX9_bill_37 : decode cX9_bill 37 = .ok (.aload_n 0, 1) := by decide +kernel
theorem dX9_bill_38 : decode cX9_bill 38 = .ok (.iconst 4, 1) := by decide +kernel
theorem dX9_bill_39 : decode cX9_bill 39 = .ok (.invokevirtual 107, 3) := by decide +kernel
theorem dX9_bill_42 : decode cX9_bill 42 = .ok (.ireturn, 1) := by decide +kernel
theorem dX9_bill_43 : decode cX9_bill 43 = .ok (.aload_n 0, 1) := by decide +kernel
theorem dX9_bill_44 : decode cX9_bill 44 = .ok (.getfield 53, 3) := by decide +kernel
theorem dX9_bill_47 : decode cX9_bill 47 = .ok (.aload_n 0, 1) := by decide +kernel
theorem dX9_bill_48 : decode cX9_bill 48 = .ok (.getfield 185, 3) := by decide +kernel
theorem dX9_bill_51 : decode cX9_bill 51 = .ok (.iload_n 1, 1) := by decide +kernel
theorem dX9_bill_52 : decode cX9_bill 52 = .ok (.iastore, 1) := by decide +kernel
theorem dX9_bill_53 : decode cX9_bill 53 = .ok (.aload_n 0, 1) := by decide +kernel
theorem dX9_bill_54 : decode cX9_bill 54 = .ok (.getfield 56, 3) := by decide +kernel
theorem dX9_bill_57 : decode cX9_bill 57 = .ok (.aload_n 0, 1) := by decide +kernel
theorem dX9_bill_58 : decode cX9_bill 58 = .ok (.getfield 185, 3) := by decide +kernel
theorem dX9_bill_61 : decode cX9_bill 61 = .ok (.iload_n 2, 1) := by decide +kernel
theorem dX9_bill_62 : decode cX9_bill 62 = .ok (.iastore, 1) := by decide +kernel
theorem dX9_bill_63 : decode cX9_bill 63 = .ok (.aload_n 0, 1) := by decide +kernel
theorem dX9_bill_64 : decode cX9_bill 64 = .ok (.getfield 59, 3) := by decide +kernel
theorem dX9_bill_67 : decode cX9_bill 67 = .ok (.aload_n 0, 1) := by decide +kernel
theorem dX9_bill_68 : decode cX9_bill 68 = .ok (.getfield 185, 3) := by decide +kernel
theorem dX9_bill_71 : decode cX9_bill 71 = .ok (.iload_n 2, 1) := by decide +kernel
theorem dX9_bill_72 : decode cX9_bill 72 = .ok (.aload_n 0, 1) := by decide +kernel
theorem dX9_bill_73 : decode cX9_bill 73 = .ok (.getfield 19, 3) := by decide +kernel
theorem dX9_bill_76 : decode cX9_bill 76 = .ok (.iadd, 1) := by decide +kernel
theorem dX9_bill_77 : decode cX9_bill 77 = .ok (.iastore, 1) := by decide +kernel
theorem dX9_bill_78 : decode cX9_bill 78 = .ok (.aload_n 0, 1) := by decide +kernel
theorem dX9_bill_79 : decode cX9_bill 79 = .ok (.dup, 1) := by decide +kernel
theorem dX9_bill_80 : decode cX9_bill 80 = .ok (.getfield 185, 3) := by decide +kernel
theorem dX9_bill_83 : decode cX9_bill 83 = .ok (.iconst 1, 1) := by decide +kernel
theorem dX9_bill_84 : decode cX9_bill 84 = .ok (.iadd, 1) := by decide +kernel
theorem dX9_bill_85 : decode cX9_bill 85 = .ok (.putfield 185, 3) := by decide +kernel
theorem dX9_bill_88 : decode cX9_bill 88 = .ok (.aload_n 0, 1) := by decide +kernel
theorem dX9_bill_89 : decode cX9_bill 89 = .ok (.getfield 185, 3) := by decide +kernel
theorem dX9_bill_92 : decode cX9_bill 92 = .ok (.iconst 1, 1) := by decide +kernel
theorem dX9_bill_93 : decode cX9_bill 93 = .ok (.isub, 1) := by decide +kernel
theorem dX9_bill_94 : decode cX9_bill 94 = .ok (.ireturn, 1) := by decide +kernel
theorem dX9_isBill_0 : decode cX9_isBill 0 = .ok (.iload_n 1, 1) := by decide +kernel
theorem dX9_isBill_1 : decode cX9_isBill 1 = .ok (.iconst 0, 1) := by decide +kernel
theorem dX9_isBill_2 : decode cX9_isBill 2 = .ok (.aload_n 0, 1) := by decide +kernel
theorem dX9_isBill_3 : decode cX9_isBill 3 = .ok (.getfield 185, 3) := by decide +kernel
theorem dX9_isBill_6 : decode cX9_isBill 6 = .ok (.iconst 1, 1) := by decide +kernel
theorem dX9_isBill_7 : decode cX9_isBill 7 = .ok (.isub, 1) := by decide +kernel
theorem dX9_isBill_8 : decode cX9_isBill 8 = .ok (.invokestatic 93, 3) := by decide +kernel
theorem dX9_isBill_11 : decode cX9_isBill 11 = .ok (.ireturn, 1) := by decide +kernel
theorem dX9_pay_0 : decode cX9_pay 0 = .ok (.aload_n 0, 1) := by decide +kernel
theorem dX9_pay_1 : decode cX9_pay 1 = .ok (.iload_n 1, 1) := by decide +kernel
theorem dX9_pay_2 : decode cX9_pay 2 = .ok (.invokevirtual 188, 3) := by decide +kernel
theorem dX9_pay_5 : decode cX9_pay 5 = .ok (.ifCond .eq 8, 3) := by decide +kernel
theorem dX9_pay_8 : decode cX9_pay 8 = .ok (.iload_n 2, 1) := by decide +kernel
theorem dX9_pay_9 : decode cX9_pay 9 = .ok (.iconst 1, 1) := by decide +kernel
theorem dX9_pay_10 : decode cX9_pay 10 = .ok (.if_icmp .ge 9, 3) := by decide +kernel
theorem dX9_pay_13 : decode cX9_pay 13 = .ok (.aload_n 0, 1) := by decide +kernel
theorem dX9_pay_14 : decode cX9_pay 14 = .ok (.iconst 1, 1) := by decide +kernel
theorem dX9_pay_15 : decode cX9_pay 15 = .ok (.invokevirtual 107, 3) := by decide +kernel
theorem dX9_pay_18 : decode cX9_pay 18 = .ok (.ireturn, 1) := by decide +kernel
theorem dX9_pay_19 : decode cX9_pay 19 = .ok (.aload_n 0, 1) := by decide +kernel
theorem dX9_pay_20 : decode cX9_pay 20 = .ok (.getfield 53, 3) := by decide +kernel
theorem dX9_pay_23 : decode cX9_pay 23 = .ok (.iload_n 1, 1) := by decide +kernel
theorem dX9_pay_24 : decode cX9_pay 24 = .ok (.iaload, 1) := by decide +kernel
theorem dX9_pay_25 : decode cX9_pay 25 = .ok (.iload_n 2, 1) := by decide +kernel
theorem dX9_pay_26 : decode cX9_pay 26 = .ok (.if_icmp .ge 9, 3) := by decide +kernel
theorem dX9_pay_29 : decode cX9_pay 29 = .ok (.aload_n 0, 1) := by decide +kernel
theorem dX9_pay_30 : decode cX9_pay 30 = .ok (.iconst 3, 1) := by decide +kernel
theorem dX9_pay_31 : decode cX9_pay 31 = .ok (.invokevirtual 107, 3) := by decide +kernel
theorem dX9_pay_34 : decode cX9_pay 34 = .ok (.ireturn, 1) := by decide +kernel
theorem dX9_pay_35 : decode cX9_pay 35 = .ok (.aload_n 0, 1) := by decide +kernel
theorem dX9_pay_36 : decode cX9_pay 36 = .ok (.getfield 53, 3) := by decide +kernel
theorem dX9_pay_39 : decode cX9_pay 39 = .ok (.iload_n 1, 1) := by decide +kernel
theorem dX9_pay_40 : decode cX9_pay 40 = .ok (.dup2, 1) := by decide +kernel
theorem dX9_pay_41 : decode cX9_pay 41 = .ok (.iaload, 1) := by decide +kernel
theorem dX9_pay_42 : decode cX9_pay 42 = .ok (.iload_n 2, 1) := by decide +kernel
theorem dX9_pay_43 : decode cX9_pay 43 = .ok (.isub, 1) := by decide +kernel
theorem dX9_pay_44 : decode cX9_pay 44 = .ok (.iastore, 1) := by decide +kernel
theorem dX9_pay_45 : decode cX9_pay 45 = .ok (.aload_n 0, 1) := by decide +kernel
theorem dX9_pay_46 : decode cX9_pay 46 = .ok (.getfield 53, 3) := by decide +kernel
theorem dX9_pay_49 : decode cX9_pay 49 = .ok (.iload_n 1, 1) := by decide +kernel
theorem dX9_pay_50 : decode cX9_pay 50 = .ok (.iaload, 1) := by decide +kernel
theorem dX9_pay_51 : decode cX9_pay 51 = .ok (.ireturn, 1) := by decide +kernel
theorem dX9_owedOf_0 : decode cX9_owedOf 0 = .ok (.iload_n 2, 1) := by decide +kernel
theorem dX9_owedOf_1 : decode cX9_owedOf 1 = .ok (.aload_n 0, 1) := by decide +kernel
theorem dX9_owedOf_2 : decode cX9_owedOf 2 = .ok (.getfield 56, 3) := by decide +kernel
theorem dX9_owedOf_5 : decode cX9_owedOf 5 = .ok (.iload_n 1, 1) := by decide +kernel
theorem dX9_owedOf_6 : decode cX9_owedOf 6 = .ok (.iaload, 1) := by decide +kernel
theorem dX9_owedOf_7 : decode cX9_owedOf 7 = .ok (.if_icmp .ge 5, 3) := by decide +kernel
theorem dX9_owedOf_10 : decode cX9_owedOf 10 = .ok (.iconst 0, 1) := by decide +kernel
theorem dX9_owedOf_11 : decode cX9_owedOf 11 = .ok (.ireturn, 1) := by decide +kernel
theorem dX9_owedOf_12 : decode cX9_owedOf 12 = .ok (.iload_n 2, 1) := by decide +kernel
theorem dX9_owedOf_13 : decode cX9_owedOf 13 = .ok (.aload_n 0, 1) := by decide +kernel
theorem dX9_owedOf_14 : decode cX9_owedOf 14 = .ok (.getfield 59, 3) := by decide +kernel
theorem dX9_owedOf_17 : decode cX9_owedOf 17 = .ok (.iload_n 1, 1) := by decide +kernel
theorem dX9_owedOf_18 : decode cX9_owedOf 18 = .ok (.iaload, 1) := by decide +kernel
theorem dX9_owedOf_19 : decode cX9_owedOf 19 = .ok (.if_icmp .le 17, 3) := by decide +kernel
theorem dX9_owedOf_22 : decode cX9_owedOf 22 = .ok (.iload_n 2, 1) := by decide +kernel
theorem dX9_owedOf_23 : decode cX9_owedOf 23 = .ok (.aload_n 0, 1) := by decide +kernel
theorem dX9_owedOf_24 : decode cX9_owedOf 24 = .ok (.getfield 59, 3) := by decide +kernel
theorem dX9_owedOf_27 : decode cX9_owedOf 27 = .ok (.iload_n 1, 1) := by decide +kernel
theorem dX9_owedOf_28 : decode cX9_owedOf 28 = .ok (.iaload, 1) := by decide +kernel
theorem dX9_owedOf_29 : decode cX9_owedOf 29 = .ok (.isub, 1) := by decide +kernel
theorem dX9_owedOf_30 : decode cX9_owedOf 30 = .ok (.bipush 7, 2) := by decide +kernel
theorem dX9_owedOf_32 : decode cX9_owedOf 32 = .ok (.idiv, 1) := by decide +kernel
theorem dX9_owedOf_33 : decode cX9_owedOf 33 = .ok (.goto 4, 3) := by decide +kernel
theorem dX9_owedOf_36 : decode cX9_owedOf 36 = .ok (.iconst 0, 1) := by decide +kernel
theorem dX9_owedOf_37 : decode cX9_owedOf 37 = .ok (.istore_n 3, 1) := by decide +kernel
theorem dX9_owedOf_38 : decode cX9_owedOf 38 = .ok (.aload_n 0, 1) := by decide +kernel
theorem dX9_owedOf_39 : decode cX9_owedOf 39 = .ok (.getfield 53, 3) := by decide +kernel
theorem dX9_owedOf_42 : decode cX9_owedOf 42 = .ok (.iload_n 1, 1) := by decide +kernel
theorem dX9_owedOf_43 : decode cX9_owedOf 43 = .ok (.iaload, 1) := by decide +kernel
theorem dX9_owedOf_44 : decode cX9_owedOf 44 = .ok (.iload_n 3, 1) := by decide +kernel
theorem dX9_owedOf_45 : decode cX9_owedOf 45 = .ok (.aload_n 0, 1) := by decide +kernel
theorem dX9_owedOf_46 : decode cX9_owedOf 46 = .ok (.getfield 53, 3) := by decide +kernel
theorem dX9_owedOf_49 : decode cX9_owedOf 49 = .ok (.iload_n 1, 1) := by decide +kernel
theorem dX9_owedOf_50 : decode cX9_owedOf 50 = .ok (.iaload, 1) := by decide +kernel
theorem dX9_owedOf_51 : decode cX9_owedOf 51 = .ok (.bipush 50, 2) := by decide +kernel
theorem dX9_owedOf_53 : decode cX9_owedOf 53 = .ok (.idiv, 1) := by decide +kernel
theorem dX9_owedOf_54 : decode cX9_owedOf 54 = .ok (.imul, 1) := by decide +kernel
theorem dX9_owedOf_55 : decode cX9_owedOf 55 = .ok (.iadd, 1) := by decide +kernel
theorem dX9_owedOf_56 : decode cX9_owedOf 56 = .ok (.ireturn, 1) := by decide +kernel
theorem dX9_owed_0 : decode cX9_owed 0 = .ok (.iload_n 1, 1) := by decide +kernel
theorem dX9_owed_1 : decode cX9_owed 1 = .ok (.iconst (-1), 1) := by decide +kernel
theorem dX9_owed_2 : decode cX9_owed 2 = .ok (.if_icmp .eq 11, 3) := by decide +kernel
theorem dX9_owed_5 : decode cX9_owed 5 = .ok (.aload_n 0, 1) := by decide +kernel
theorem dX9_owed_6 : decode cX9_owed 6 = .ok (.iload_n 1, 1) := by decide +kernel
theorem dX9_owed_7 : decode cX9_owed 7 = .ok (.invokevirtual 188, 3) := by decide +kernel
theorem dX9_owed_10 : decode cX9_owed 10 = .ok (.ifCond .eq 14, 3) := by decide +kernel
theorem dX9_owed_13 : decode cX9_owed 13 = .ok (.iload_n 2, 1) := by decide +kernel
theorem dX9_owed_14 : decode cX9_owed 14 = .ok (.iconst 0, 1) := by decide +kernel
theorem dX9_owed_15 : decode cX9_owed 15 = .ok (.sipush 2000, 3) := by decide +kernel
theorem dX9_owed_18 : decode cX9_owed 18 = .ok (.invokestatic 93, 3) := by decide +kernel
theorem dX9_owed_21 : decode cX9_owed 21 = .ok (.ifCond .ne 9, 3) := by decide +kernel
theorem dX9_owed_24 : decode cX9_owed 24 = .ok (.aload_n 0, 1) := by decide +kernel
theorem dX9_owed_25 : decode cX9_owed 25 = .ok (.iconst 1, 1) := by decide +kernel
theorem dX9_owed_26 : decode cX9_owed 26 = .ok (.invokevirtual 107, 3) := by decide +kernel
theorem dX9_owed_29 : decode cX9_owed 29 = .ok (.ireturn, 1) := by decide +kernel
theorem dX9_owed_30 : decode cX9_owed 30 = .ok (.iload_n 1, 1) := by decide +kernel
theorem dX9_owed_31 : decode cX9_owed 31 = .ok (.ifCond .lt 10, 3) := by decide +kernel
theorem dX9_owed_34 : decode cX9_owed 34 = .ok (.aload_n 0, 1) := by decide +kernel
theorem dX9_owed_35 : decode cX9_owed 35 = .ok (.iload_n 1, 1) := by decide +kernel
theorem dX9_owed_36 : decode cX9_owed 36 = .ok (.iload_n 2, 1) := by decide +kernel
theorem dX9_owed_37 : decode cX9_owed 37 = .ok (.invokevirtual 191, 3) := by decide +kernel
theorem dX9_owed_40 : decode cX9_owed 40 = .ok (.ireturn, 1) := by decide +kernel
theorem dX9_owed_41 : decode cX9_owed 41 = .ok (.iconst 0, 1) := by decide +kernel
theorem dX9_owed_42 : decode cX9_owed 42 = .ok (.istore_n 3, 1) := by decide +kernel
theorem dX9_owed_43 : decode cX9_owed 43 = .ok (.iconst 0, 1) := by decide +kernel
theorem dX9_owed_44 : decode cX9_owed 44 = .ok (.istore 4, 2) := by decide +kernel
theorem dX9_owed_46 : decode cX9_owed 46 = .ok (.iload 4, 2) := by decide +kernel
theorem dX9_owed_48 : decode cX9_owed 48 = .ok (.aload_n 0, 1) := by decide +kernel
theorem dX9_owed_49 : decode cX9_owed 49 = .ok (.getfield 185, 3) := by decide +kernel
theorem dX9_owed_52 : decode cX9_owed 52 = .ok (.if_icmp .ge 19, 3) := by decide +kernel
theorem dX9_owed_55 : decode cX9_owed 55 = .ok (.iload_n 3, 1) := by decide +kernel
theorem dX9_owed_56 : decode cX9_owed 56 = .ok (.aload_n 0, 1) := by decide +kernel
theorem dX9_owed_57 : decode cX9_owed 57 = .ok (.iload 4, 2) := by decide +kernel
theorem dX9_owed_59 : decode cX9_owed 59 = .ok (.iload_n 2, 1) := by decide +kernel
theorem dX9_owed_60 : decode cX9_owed 60 = .ok (.invokevirtual 191, 3) := by decide +kernel
theorem dX9_owed_63 : decode cX9_owed 63 = .ok (.iadd, 1) := by decide +kernel
theorem dX9_owed_64 : decode cX9_owed 64 = .ok (.istore_n 3, 1) := by decide +kernel
theorem dX9_owed_65 : decode cX9_owed 65 = .ok (.iinc 4 1, 3) := by decide +kernel
theorem dX9_owed_68 : decode cX9_owed 68 = .ok (.goto (-22), 3) := by decide +kernel
theorem dX9_owed_71 : decode cX9_owed 71 = .ok (.iload_n 3, 1) := by decide +kernel
theorem dX9_owed_72 : decode cX9_owed 72 = .ok (.ireturn, 1) := by decide +kernel
theorem dX9_tell_0 : decode cX9_tell 0 = .ok (.aload_n 0, 1) := by decide +kernel
theorem dX9_tell_1 : decode cX9_tell 1 = .ok (.getfield 194, 3) := by decide +kernel
theorem dX9_tell_4 : decode cX9_tell 4 = .ok (.bipush 12, 2) := by decide +kernel
theorem dX9_tell_6 : decode cX9_tell 6 = .ok (.if_icmp .ne 9, 3) := by decide +kernel
theorem dX9_tell_9 : decode cX9_tell 9 = .ok (.aload_n 0, 1) := by decide +kernel
theorem dX9_tell_10 : decode cX9_tell 10 = .ok (.iconst 4, 1) := by decide +kernel
theorem dX9_tell_11 : decode cX9_tell 11 = .ok (.invokevirtual 107, 3) := by decide +kernel
theorem dX9_tell_14 : decode cX9_tell 14 = .ok (.ireturn, 1) := by decide +kernel
theorem dX9_tell_15 : decode cX9_tell 15 = .ok (.aload_n 0, 1) := by decide +kernel
theorem dX9_tell_16 : decode cX9_tell 16 = .ok (.getfield 62, 3) := by decide +kernel
theorem dX9_tell_19 : decode cX9_tell 19 = .ok (.aload_n 0, 1) := by decide +kernel
theorem dX9_tell_20 : decode cX9_tell 20 = .ok (.getfield 194, 3) := by decide +kernel
theorem dX9_tell_23 : decode cX9_tell 23 = .ok (.iload_n 1, 1) := by decide +kernel
theorem dX9_tell_24 : decode cX9_tell 24 = .ok (.iastore, 1) := by decide +kernel
theorem dX9_tell_25 : decode cX9_tell 25 = .ok (.aload_n 0, 1) := by decide +kernel
theorem dX9_tell_26 : decode cX9_tell 26 = .ok (.dup, 1) := by decide +kernel
theorem dX9_tell_27 : decode cX9_tell 27 = .ok (.getfield 194, 3) := by decide +kernel
theorem dX9_tell_30 : decode cX9_tell 30 = .ok (.iconst 1, 1) := by decide +kernel
theorem dX9_tell_31 : decode cX9_tell 31 = .ok (.iadd, 1) := by decide +kernel
theorem dX9_tell_32 : decode cX9_tell 32 = .ok (.putfield 194, 3) := by decide +kernel
theorem dX9_tell_35 : decode cX9_tell 35 = .ok (.aload_n 0, 1) := by decide +kernel
theorem dX9_tell_36 : decode cX9_tell 36 = .ok (.getfield 194, 3) := by decide +kernel
theorem dX9_tell_39 : decode cX9_tell 39 = .ok (.ireturn, 1) := by decide +kernel
theorem dX9_check_0 : decode cX9_check 0 = .ok (.aload_n 0, 1) := by decide +kernel
theorem dX9_check_1 : decode cX9_check 1 = .ok (.getfield 194, 3) := by decide +kernel
theorem dX9_check_4 : decode cX9_check 4 = .ok (.istore_n 2, 1) := by decide +kernel
theorem dX9_check_5 : decode cX9_check 5 = .ok (.aload_n 0, 1) := by decide +kernel
theorem dX9_check_6 : decode cX9_check 6 = .ok (.iconst 0, 1) := by decide +kernel
theorem dX9_check_7 : decode cX9_check 7 = .ok (.putfield 194, 3) := by decide +kernel
theorem dX9_check_10 : decode cX9_check 10 = .ok (.iload_n 2, 1) := by decide +kernel
theorem dX9_check_11 : decode cX9_check 11 = .ok (.ifCond .ne 9, 3) := by decide +kernel
theorem dX9_check_14 : decode cX9_check 14 = .ok (.aload_n 0, 1) := by decide +kernel
theorem dX9_check_15 : decode cX9_check 15 = .ok (.iconst 2, 1) := by decide +kernel
theorem dX9_check_16 : decode cX9_check 16 = .ok (.invokevirtual 107, 3) := by decide +kernel
theorem dX9_check_19 : decode cX9_check 19 = .ok (.ireturn, 1) := by decide +kernel
theorem dX9_check_20 : decode cX9_check 20 = .ok (.aload_n 0, 1) := by decide +kernel
theorem dX9_check_21 : decode cX9_check 21 = .ok (.iload_n 1, 1) := by decide +kernel
theorem dX9_check_22 : decode cX9_check 22 = .ok (.invokevirtual 111, 3) := by decide +kernel
theorem dX9_check_25 : decode cX9_check 25 = .ok (.ifCond .ne 9, 3) := by decide +kernel
theorem dX9_check_28 : decode cX9_check 28 = .ok (.aload_n 0, 1) := by decide +kernel
theorem dX9_check_29 : decode cX9_check 29 = .ok (.iconst 1, 1) := by decide +kernel
theorem dX9_check_30 : decode cX9_check 30 = .ok (.invokevirtual 107, 3) := by decide +kernel
theorem dX9_check_33 : decode cX9_check 33 = .ok (.ireturn, 1) := by decide +kernel
theorem dX9_check_34 : decode cX9_check 34 = .ok (.iconst 0, 1) := by decide +kernel
theorem dX9_check_35 : decode cX9_check 35 = .ok (.istore_n 3, 1) := by decide +kernel
theorem dX9_check_36 : decode cX9_check 36 = .ok (.iload_n 3, 1) := by decide +kernel
theorem dX9_check_37 : decode cX9_check 37 = .ok (.iload_n 2, 1) := by decide +kernel
theorem dX9_check_38 : decode cX9_check 38 = .ok (.if_icmp .ge 137, 3) := by decide +kernel
theorem dX9_check_41 : decode cX9_check 41 = .ok (.aload_n 0, 1) := by decide +kernel
theorem dX9_check_42 : decode cX9_check 42 = .ok (.aload_n 0, 1) := by decide +kernel
theorem dX9_check_43 : decode cX9_check 43 = .ok (.getfield 62, 3) := by decide +kernel
theorem dX9_check_46 : decode cX9_check 46 = .ok (.iload_n 3, 1) := by decide +kernel
theorem dX9_check_47 : decode cX9_check 47 = .ok (.iaload, 1) := by decide +kernel
theorem dX9_check_48 : decode cX9_check 48 = .ok (.invokevirtual 152, 3) := by decide +kernel
theorem dX9_check_51 : decode cX9_check 51 = .ok (.ifCond .eq 29, 3) := by decide +kernel
theorem dX9_check_54 : decode cX9_check 54 = .ok (.aload_n 0, 1) := by decide +kernel
theorem dX9_check_55 : decode cX9_check 55 = .ok (.iload_n 1, 1) := by decide +kernel
theorem dX9_check_56 : decode cX9_check 56 = .ok (.aload_n 0, 1) := by decide +kernel
theorem dX9_check_57 : decode cX9_check 57 = .ok (.getfield 62, 3) := by decide +kernel
theorem dX9_check_60 : decode cX9_check 60 = .ok (.iload_n 3, 1) := by decide +kernel
theorem dX9_check_61 : decode cX9_check 61 = .ok (.iaload, 1) := by decide +kernel
theorem dX9_check_62 : decode cX9_check 62 = .ok (.bipush 100, 2) := by decide +kernel
theorem dX9_check_64 : decode cX9_check 64 = .ok (.idiv, 1) := by decide +kernel
theorem dX9_check_65 : decode cX9_check 65 = .ok (.aload_n 0, 1) := by decide +kernel
theorem dX9_check_66 : decode cX9_check 66 = .ok (.getfield 62, 3) := by decide +kernel
theorem dX9_check_69 : decode cX9_check 69 = .ok (.iload_n 3, 1) := by decide +kernel
theorem dX9_check_70 : decode cX9_check 70 = .ok (.iaload, 1) := by decide +kernel
theorem dX9_check_71 : decode cX9_check 71 = .ok (.bipush 100, 2) := by decide +kernel
theorem dX9_check_73 : decode cX9_check 73 = .ok (.irem, 1) := by decide +kernel
theorem dX9_check_74 : decode cX9_check 74 = .ok (.invokevirtual 124, 3) := by decide +kernel
theorem dX9_check_77 : decode cX9_check 77 = .ok (.ifCond .ne 9, 3) := by decide +kernel
theorem dX9_check_80 : decode cX9_check 80 = .ok (.aload_n 0, 1) := by decide +kernel
theorem dX9_check_81 : decode cX9_check 81 = .ok (.iconst 3, 1) := by decide +kernel
theorem dX9_check_82 : decode cX9_check 82 = .ok (.invokevirtual 107, 3) := by decide +kernel
theorem dX9_check_85 : decode cX9_check 85 = .ok (.ireturn, 1) := by decide +kernel
theorem dX9_check_86 : decode cX9_check 86 = .ok (.aload_n 0, 1) := by decide +kernel
theorem dX9_check_87 : decode cX9_check 87 = .ok (.getfield 68, 3) := by decide +kernel
theorem dX9_check_90 : decode cX9_check 90 = .ok (.iload_n 3, 1) := by decide +kernel
theorem dX9_check_91 : decode cX9_check 91 = .ok (.aload_n 0, 1) := by decide +kernel
theorem dX9_check_92 : decode cX9_check 92 = .ok (.getfield 62, 3) := by decide +kernel
theorem dX9_check_95 : decode cX9_check 95 = .ok (.iload_n 3, 1) := by decide +kernel
theorem dX9_check_96 : decode cX9_check 96 = .ok (.iaload, 1) := by decide +kernel
theorem dX9_check_97 : decode cX9_check 97 = .ok (.bipush 100, 2) := by decide +kernel
theorem dX9_check_99 : decode cX9_check 99 = .ok (.idiv, 1) := by decide +kernel
theorem dX9_check_100 : decode cX9_check 100 = .ok (.iastore, 1) := by decide +kernel
theorem dX9_check_101 : decode cX9_check 101 = .ok (.aload_n 0, 1) := by decide +kernel
theorem dX9_check_102 : decode cX9_check 102 = .ok (.getfield 71, 3) := by decide +kernel
theorem dX9_check_105 : decode cX9_check 105 = .ok (.iload_n 3, 1) := by decide +kernel
theorem dX9_check_106 : decode cX9_check 106 = .ok (.aload_n 0, 1) := by decide +kernel
theorem dX9_check_107 : decode cX9_check 107 = .ok (.getfield 62, 3) := by decide +kernel
theorem dX9_check_110 : decode cX9_check 110 = .ok (.iload_n 3, 1) := by decide +kernel
theorem dX9_check_111 : decode cX9_check 111 = .ok (.iaload, 1) := by decide +kernel
theorem dX9_check_112 : decode cX9_check 112 = .ok (.bipush 100, 2) := by decide +kernel
theorem dX9_check_114 : decode cX9_check 114 = .ok (.irem, 1) := by decide +kernel
theorem dX9_check_115 : decode cX9_check 115 = .ok (.iastore, 1) := by decide +kernel
theorem dX9_check_116 : decode cX9_check 116 = .ok (.iload_n 3, 1) := by decide +kernel
theorem dX9_check_117 : decode cX9_check 117 = .ok (.ifCond .le 46, 3) := by decide +kernel
theorem dX9_check_120 : decode cX9_check 120 = .ok (.aload_n 0, 1) := by decide +kernel
theorem dX9_check_121 : decode cX9_check 121 = .ok (.getfield 71, 3) := by decide +kernel
theorem dX9_check_124 : decode cX9_check 124 = .ok (.iload_n 3, 1) := by decide +kernel
theorem dX9_check_125 : decode cX9_check 125 = .ok (.iaload, 1) := by decide +kernel
theorem dX9_check_126 : decode cX9_check 126 = .ok (.aload_n 0, 1) := by decide +kernel
theorem dX9_check_127 : decode cX9_check 127 = .ok (.getfield 71, 3) := by decide +kernel
theorem dX9_check_130 : decode cX9_check 130 = .ok (.iload_n 3, 1) := by decide +kernel
theorem dX9_check_131 : decode cX9_check 131 = .ok (.iconst 1, 1) := by decide +kernel
theorem dX9_check_132 : decode cX9_check 132 = .ok (.isub, 1) := by decide +kernel
theorem dX9_check_133 : decode cX9_check 133 = .ok (.iaload, 1) := by decide +kernel
theorem dX9_check_134 : decode cX9_check 134 = .ok (.aload_n 0, 1) := by decide +kernel
theorem dX9_check_135 : decode cX9_check 135 = .ok (.iload_n 1, 1) := by decide +kernel
theorem dX9_check_136 : decode cX9_check 136 = .ok (.aload_n 0, 1) := by decide +kernel
theorem dX9_check_137 : decode cX9_check 137 = .ok (.getfield 68, 3) := by decide +kernel
theorem dX9_check_140 : decode cX9_check 140 = .ok (.iload_n 3, 1) := by decide +kernel
theorem dX9_check_141 : decode cX9_check 141 = .ok (.iconst 1, 1) := by decide +kernel
theorem dX9_check_142 : decode cX9_check 142 = .ok (.isub, 1) := by decide +kernel
theorem dX9_check_143 : decode cX9_check 143 = .ok (.iaload, 1) := by decide +kernel
theorem dX9_check_144 : decode cX9_check 144 = .ok (.aload_n 0, 1) := by decide +kernel
theorem dX9_check_145 : decode cX9_check 145 = .ok (.getfield 68, 3) := by decide +kernel
theorem dX9_check_148 : decode cX9_check 148 = .ok (.iload_n 3, 1) := by decide +kernel
theorem dX9_check_149 : decode cX9_check 149 = .ok (.iaload, 1) := by decide +kernel
theorem dX9_check_150 : decode cX9_check 150 = .ok (.invokevirtual 148, 3) := by decide +kernel
theorem dX9_check_153 : decode cX9_check 153 = .ok (.iadd, 1) := by decide +kernel
theorem dX9_check_154 : decode cX9_check 154 = .ok (.if_icmp .eq 9, 3) := by decide +kernel
theorem dX9_check_157 : decode cX9_check 157 = .ok (.aload_n 0, 1) := by decide +kernel
theorem dX9_check_158 : decode cX9_check 158 = .ok (.iconst 3, 1) := by decide +kernel
theorem dX9_check_159 : decode cX9_check 159 = .ok (.invokevirtual 107, 3) := by decide +kernel
theorem dX9_check_162 : decode cX9_check 162 = .ok (.ireturn, 1) := by decide +kernel
theorem dX9_check_163 : decode cX9_check 163 = .ok (.aload_n 0, 1) := by decide +kernel
theorem dX9_check_164 : decode cX9_check 164 = .ok (.iload_n 1, 1) := by decide +kernel
theorem dX9_check_165 : decode cX9_check 165 = .ok (.iload_n 3, 1) := by decide +kernel
theorem dX9_check_166 : decode cX9_check 166 = .ok (.invokevirtual 140, 3) := by decide +kernel
theorem dX9_check_169 : decode cX9_check 169 = .ok (.iinc 3 1, 3) := by decide +kernel
theorem dX9_check_172 : decode cX9_check 172 = .ok (.goto (-136), 3) := by decide +kernel
theorem dX9_check_175 : decode cX9_check 175 = .ok (.aload_n 0, 1) := by decide +kernel
theorem dX9_check_176 : decode cX9_check 176 = .ok (.getfield 74, 3) := by decide +kernel
theorem dX9_check_179 : decode cX9_check 179 = .ok (.iload_n 2, 1) := by decide +kernel
theorem dX9_check_180 : decode cX9_check 180 = .ok (.iconst 1, 1) := by decide +kernel
theorem dX9_check_181 : decode cX9_check 181 = .ok (.isub, 1) := by decide +kernel
theorem dX9_check_182 : decode cX9_check 182 = .ok (.iaload, 1) := by decide +kernel
theorem dX9_check_183 : decode cX9_check 183 = .ok (.ireturn, 1) := by decide +kernel
theorem dX9_count_0 : decode cX9_count 0 = .ok (.iconst 0, 1) := by decide +kernel
theorem dX9_count_1 : decode cX9_count 1 = .ok (.istore_n 2, 1) := by decide +kernel
theorem dX9_count_2 : decode cX9_count 2 = .ok (.iload_n 1, 1) := by decide +kernel
theorem dX9_count_3 : decode cX9_count 3 = .ok (.tableswitch 98 0 6 #[41, 46, 51, 56, 61, 66, 93], 41) := by decide +kernel
theorem dX9_count_44 : decode cX9_count 44 = .ok (.aload_n 0, 1) := by decide +kernel
theorem dX9_count_45 : decode cX9_count 45 = .ok (.getfield 90, 3) := by decide +kernel
theorem dX9_count_48 : decode cX9_count 48 = .ok (.ireturn, 1) := by decide +kernel
theorem dX9_count_49 : decode cX9_count 49 = .ok (.aload_n 0, 1) := by decide +kernel
theorem dX9_count_50 : decode cX9_count 50 = .ok (.getfield 97, 3) := by decide +kernel
theorem dX9_count_53 : decode cX9_count 53 = .ok (.ireturn, 1) := by decide +kernel
theorem dX9_count_54 : decode cX9_count 54 = .ok (.aload_n 0, 1) := by decide +kernel
theorem dX9_count_55 : decode cX9_count 55 = .ok (.getfield 162, 3) := by decide +kernel
theorem dX9_count_58 : decode cX9_count 58 = .ok (.ireturn, 1) := by decide +kernel
theorem dX9_count_59 : decode cX9_count 59 = .ok (.aload_n 0, 1) := by decide +kernel
theorem dX9_count_60 : decode cX9_count 60 = .ok (.getfield 185, 3) := by decide +kernel
theorem dX9_count_63 : decode cX9_count 63 = .ok (.ireturn, 1) := by decide +kernel
theorem dX9_count_64 : decode cX9_count 64 = .ok (.aload_n 0, 1) := by decide +kernel
theorem dX9_count_65 : decode cX9_count 65 = .ok (.getfield 194, 3) := by decide +kernel
theorem dX9_count_68 : decode cX9_count 68 = .ok (.ireturn, 1) := by decide +kernel
theorem dX9_count_69 : decode cX9_count 69 = .ok (.iconst 0, 1) := by decide +kernel
theorem dX9_count_70 : decode cX9_count 70 = .ok (.istore_n 3, 1) := by decide +kernel
theorem dX9_count_71 : decode cX9_count 71 = .ok (.iload_n 3, 1) := by decide +kernel
theorem dX9_count_72 : decode cX9_count 72 = .ok (.aload_n 0, 1) := by decide +kernel
theorem dX9_count_73 : decode cX9_count 73 = .ok (.getfield 97, 3) := by decide +kernel
theorem dX9_count_76 : decode cX9_count 76 = .ok (.if_icmp .ge 18, 3) := by decide +kernel
theorem dX9_count_79 : decode cX9_count 79 = .ok (.iload_n 2, 1) := by decide +kernel
theorem dX9_count_80 : decode cX9_count 80 = .ok (.aload_n 0, 1) := by decide +kernel
theorem dX9_count_81 : decode cX9_count 81 = .ok (.getfield 35, 3) := by decide +kernel
theorem dX9_count_84 : decode cX9_count 84 = .ok (.iload_n 3, 1) := by decide +kernel
theorem dX9_count_85 : decode cX9_count 85 = .ok (.iaload, 1) := by decide +kernel
theorem dX9_count_86 : decode cX9_count 86 = .ok (.iadd, 1) := by decide +kernel
theorem dX9_count_87 : decode cX9_count 87 = .ok (.istore_n 2, 1) := by decide +kernel
theorem dX9_count_88 : decode cX9_count 88 = .ok (.iinc 3 1, 3) := by decide +kernel
theorem dX9_count_91 : decode cX9_count 91 = .ok (.goto (-20), 3) := by decide +kernel
theorem dX9_count_94 : decode cX9_count 94 = .ok (.iload_n 2, 1) := by decide +kernel
theorem dX9_count_95 : decode cX9_count 95 = .ok (.ireturn, 1) := by decide +kernel
theorem dX9_count_96 : decode cX9_count 96 = .ok (.aload_n 0, 1) := by decide +kernel
theorem dX9_count_97 : decode cX9_count 97 = .ok (.getfield 7, 3) := by decide +kernel
theorem dX9_count_100 : decode cX9_count 100 = .ok (.ireturn, 1) := by decide +kernel
theorem dX9_count_101 : decode cX9_count 101 = .ok (.aload_n 0, 1) := by decide +kernel
theorem dX9_count_102 : decode cX9_count 102 = .ok (.iconst 1, 1) := by decide +kernel
theorem dX9_count_103 : decode cX9_count 103 = .ok (.invokevirtual 107, 3) := by decide +kernel
theorem dX9_count_106 : decode cX9_count 106 = .ok (.ireturn, 1) := by decide +kernel
theorem dX9_found_0 : decode cX9_found 0 = .ok (.iload_n 1, 1) := by decide +kernel
theorem dX9_found_1 : decode cX9_found 1 = .ok (.iconst 1, 1) := by decide +kernel
theorem dX9_found_2 : decode cX9_found 2 = .ok (.iconst 5, 1) := by decide +kernel
theorem dX9_found_3 : decode cX9_found 3 = .ok (.invokestatic 93, 3) := by decide +kernel
theorem dX9_found_6 : decode cX9_found 6 = .ok (.ifCond .eq 12, 3) := by decide +kernel
theorem dX9_found_9 : decode cX9_found 9 = .ok (.aload_n 0, 1) := by decide +kernel
theorem dX9_found_10 : decode cX9_found 10 = .ok (.getfield 65, 3) := by decide +kernel
theorem dX9_found_13 : decode cX9_found 13 = .ok (.iload_n 1, 1) := by decide +kernel
theorem dX9_found_14 : decode cX9_found 14 = .ok (.iaload, 1) := by decide +kernel
theorem dX9_found_15 : decode cX9_found 15 = .ok (.goto 8, 3) := by decide +kernel
theorem dX9_found_18 : decode cX9_found 18 = .ok (.aload_n 0, 1) := by decide +kernel
theorem dX9_found_19 : decode cX9_found 19 = .ok (.iconst 1, 1) := by decide +kernel
theorem dX9_found_20 : decode cX9_found 20 = .ok (.invokevirtual 107, 3) := by decide +kernel
theorem dX9_found_23 : decode cX9_found 23 = .ok (.ireturn, 1) := by decide +kernel
end
section
theorem dL_law_0 : decode cL_law 0 = .ok (.new 7, 3) := by decide +kernel
theorem dL_law_3 : decode cL_law 3 = .ok (.dup, 1) := by decide +kernel
theorem dL_law_4 : decode cL_law 4 = .ok (.invokespecial 9, 3) := by decide +kernel
theorem dL_law_7 : decode cL_law 7 = .ok (.astore_n 1, 1) := by decide +kernel
theorem dL_law_8 : decode cL_law 8 = .ok (.new 10, 3) := by decide +kernel
theorem dL_law_11 : decode cL_law 11 = .ok (.dup, 1) := by decide +kernel
theorem dL_law_12 : decode cL_law 12 = .ok (.invokespecial 12, 3) := by decide +kernel
theorem dL_law_15 : decode cL_law 15 = .ok (.astore_n 2, 1) := by decide +kernel
theorem dL_law_16 : decode cL_law 16 = .ok (.iconst 0, 1) := by decide +kernel
theorem dL_law_17 : decode cL_law 17 = .ok (.istore_n 3, 1) := by decide +kernel
theorem dL_law_18 : decode cL_law 18 = .ok (.iload_n 3, 1) := by decide +kernel
theorem dL_law_19 : decode cL_law 19 = .ok (.aload_n 0, 1) := by decide +kernel
theorem dL_law_20 : decode cL_law 20 = .ok (.arraylength, 1) := by decide +kernel
theorem dL_law_21 : decode cL_law 21 = .ok (.iconst 5, 1) := by decide +kernel
theorem dL_law_22 : decode cL_law 22 = .ok (.isub, 1) := by decide +kernel
theorem dL_law_23 : decode cL_law 23 = .ok (.if_icmp .gt 1124, 3) := by decide +kernel
theorem dL_law_26 : decode cL_law 26 = .ok (.aload_n 0, 1) := by decide +kernel
theorem dL_law_27 : decode cL_law 27 = .ok (.iload_n 3, 1) := by decide +kernel
theorem dL_law_28 : decode cL_law 28 = .ok (.iaload, 1) := by decide +kernel
theorem dL_law_29 : decode cL_law 29 = .ok (.bipush 31, 2) := by decide +kernel
theorem dL_law_31 : decode cL_law 31 = .ok (.iand, 1) := by decide +kernel
theorem dL_law_32 : decode cL_law 32 = .ok (.tableswitch 1109 0 28 #[132, 155, 198, 241, 264, 287, 320, 353, 386, 429, 472, 505, 548, 601, 644, 687, 710, 723, 746, 799, 852, 895, 918, 951, 984, 1017, 1040, 1063, 1086], 132) := by decide +kernel
theorem dL_law_164 : decode cL_law 164 = .ok (.aload_n 1, 1) := by decide +kernel
theorem dL_law_165 : decode cL_law 165 = .ok (.aload_n 0, 1) := by decide +kernel
theorem dL_law_166 : decode cL_law 166 = .ok (.iload_n 3, 1) := by decide +kernel
theorem dL_law_167 : decode cL_law 167 = .ok (.iconst 1, 1) := by decide +kernel
theorem dL_law_168 : decode cL_law 168 = .ok (.iadd, 1) := by decide +kernel
theorem dL_law_169 : decode cL_law 169 = .ok (.iaload, 1) := by decide +kernel
theorem dL_law_170 : decode cL_law 170 = .ok (.invokevirtual 13, 3) := by decide +kernel
theorem dL_law_173 : decode cL_law 173 = .ok (.aload_n 2, 1) := by decide +kernel
theorem dL_law_174 : decode cL_law 174 = .ok (.aload_n 0, 1) := by decide +kernel
theorem dL_law_175 : decode cL_law 175 = .ok (.iload_n 3, 1) := by decide +kernel
theorem dL_law_176 : decode cL_law 176 = .ok (.iconst 1, 1) := by decide +kernel
theorem dL_law_177 : decode cL_law 177 = .ok (.iadd, 1) := by decide +kernel
theorem dL_law_178 : decode cL_law 178 = .ok (.iaload, 1) := by decide +kernel
theorem dL_law_179 : decode cL_law 179 = .ok (.invokevirtual 17, 3) := by decide +kernel
theorem dL_law_182 : decode cL_law 182 = .ok (.if_icmp .eq 959, 3) := by decide +kernel
theorem dL_law_185 : decode cL_law 185 = .ok (.iconst 0, 1) := by decide +kernel
theorem dL_law_186 : decode cL_law 186 = .ok (.ireturn, 1) := by decide +kernel
theorem dL_law_187 : decode cL_law 187 = .ok (.aload_n 1, 1) := by decide +kernel
theorem dL_law_188 : decode cL_law 188 = .ok (.aload_n 0, 1) := by decide +kernel
theorem dL_law_189 : decode cL_law 189 = .ok (.iload_n 3, 1) := by decide +kernel
theorem dL_law_190 : decode cL_law 190 = .ok (.iconst 1, 1) := by decide +kernel
theorem dL_law_191 : decode cL_law 191 = .ok (.iadd, 1) := by decide +kernel
theorem dL_law_192 : decode cL_law 192 = .ok (.iaload, 1) := by decide +kernel
theorem dL_law_193 : decode cL_law 193 = .ok (.aload_n 0, 1) := by decide +kernel
theorem dL_law_194 : decode cL_law 194 = .ok (.iload_n 3, 1) := by decide +kernel
theorem dL_law_195 : decode cL_law 195 = .ok (.iconst 2, 1) := by decide +kernel
theorem dL_law_196 : decode cL_law 196 = .ok (.iadd, 1) := by decide +kernel
theorem dL_law_197 : decode cL_law 197 = .ok (.iaload, 1) := by decide +kernel
theorem dL_law_198 : decode cL_law 198 = .ok (.aload_n 0, 1) := by decide +kernel
theorem dL_law_199 : decode cL_law 199 = .ok (.iload_n 3, 1) := by decide +kernel
theorem dL_law_200 : decode cL_law 200 = .ok (.iconst 3, 1) := by decide +kernel
theorem dL_law_201 : decode cL_law 201 = .ok (.iadd, 1) := by decide +kernel
theorem dL_law_202 : decode cL_law 202 = .ok (.iaload, 1) := by decide +kernel
theorem dL_law_203 : decode cL_law 203 = .ok (.invokevirtual 18, 3) := by decide +kernel
theorem dL_law_206 : decode cL_law 206 = .ok (.aload_n 2, 1) := by decide +kernel
theorem dL_law_207 : decode cL_law 207 = .ok (.aload_n 0, 1) := by decide +kernel
theorem dL_law_208 : decode cL_law 208 = .ok (.iload_n 3, 1) := by decide +kernel
theorem dL_law_209 : decode cL_law 209 = .ok (.iconst 1, 1) := by decide +kernel
theorem dL_law_210 : decode cL_law 210 = .ok (.iadd, 1) := by decide +kernel
theorem dL_law_211 : decode cL_law 211 = .ok (.iaload, 1) := by decide +kernel
theorem dL_law_212 : decode cL_law 212 = .ok (.aload_n 0, 1) := by decide +kernel
theorem dL_law_213 : decode cL_law 213 = .ok (.iload_n 3, 1) := by decide +kernel
theorem dL_law_214 : decode cL_law 214 = .ok (.iconst 2, 1) := by decide +kernel
theorem dL_law_215 : decode cL_law 215 = .ok (.iadd, 1) := by decide +kernel
theorem dL_law_216 : decode cL_law 216 = .ok (.iaload, 1) := by decide +kernel
theorem dL_law_217 : decode cL_law 217 = .ok (.aload_n 0, 1) := by decide +kernel
theorem dL_law_218 : decode cL_law 218 = .ok (.iload_n 3, 1) := by decide +kernel
theorem dL_law_219 : decode cL_law 219 = .ok (.iconst 3, 1) := by decide +kernel
theorem dL_law_220 : decode cL_law 220 = .ok (.iadd, 1) := by decide +kernel
theorem dL_law_221 : decode cL_law 221 = .ok (.iaload, 1) := by decide +kernel
theorem dL_law_222 : decode cL_law 222 = .ok (.invokevirtual 22, 3) := by decide +kernel
theorem dL_law_225 : decode cL_law 225 = .ok (.if_icmp .eq 916, 3) := by decide +kernel
theorem dL_law_228 : decode cL_law 228 = .ok (.iconst 0, 1) := by decide +kernel
theorem dL_law_229 : decode cL_law 229 = .ok (.ireturn, 1) := by decide +kernel
theorem dL_law_230 : decode cL_law 230 = .ok (.aload_n 1, 1) := by decide +kernel
theorem dL_law_231 : decode cL_law 231 = .ok (.aload_n 0, 1) := by decide +kernel
theorem dL_law_232 : decode cL_law 232 = .ok (.iload_n 3, 1) := by decide +kernel
theorem dL_law_233 : decode cL_law 233 = .ok (.iconst 1, 1) := by decide +kernel
theorem dL_law_234 : decode cL_law 234 = .ok (.iadd, 1) := by decide +kernel
theorem dL_law_235 : decode cL_law 235 = .ok (.iaload, 1) := by decide +kernel
theorem dL_law_236 : decode cL_law 236 = .ok (.aload_n 0, 1) := by decide +kernel
theorem dL_law_237 : decode cL_law 237 = .ok (.iload_n 3, 1) := by decide +kernel
theorem dL_law_238 : decode cL_law 238 = .ok (.iconst 2, 1) := by decide +kernel
theorem dL_law_239 : decode cL_law 239 = .ok (.iadd, 1) := by decide +kernel
theorem dL_law_240 : decode cL_law 240 = .ok (.iaload, 1) := by decide +kernel
theorem dL_law_241 : decode cL_law 241 = .ok (.aload_n 0, 1) := by decide +kernel
theorem dL_law_242 : decode cL_law 242 = .ok (.iload_n 3, 1) := by decide +kernel
theorem dL_law_243 : decode cL_law 243 = .ok (.iconst 3, 1) := by decide +kernel
theorem dL_law_244 : decode cL_law 244 = .ok (.iadd, 1) := by decide +kernel
theorem dL_law_245 : decode cL_law 245 = .ok (.iaload, 1) := by decide +kernel
theorem dL_law_246 : decode cL_law 246 = .ok (.invokevirtual 23, 3) := by decide +kernel
theorem dL_law_249 : decode cL_law 249 = .ok (.aload_n 2, 1) := by decide +kernel
theorem dL_law_250 : decode cL_law 250 = .ok (.aload_n 0, 1) := by decide +kernel
theorem dL_law_251 : decode cL_law 251 = .ok (.iload_n 3, 1) := by decide +kernel
theorem dL_law_252 : decode cL_law 252 = .ok (.iconst 1, 1) := by decide +kernel
theorem dL_law_253 : decode cL_law 253 = .ok (.iadd, 1) := by decide +kernel
theorem dL_law_254 : decode cL_law 254 = .ok (.iaload, 1) := by decide +kernel
theorem dL_law_255 : decode cL_law 255 = .ok (.aload_n 0, 1) := by decide +kernel
theorem dL_law_256 : decode cL_law 256 = .ok (.iload_n 3, 1) := by decide +kernel
theorem dL_law_257 : decode cL_law 257 = .ok (.iconst 2, 1) := by decide +kernel
theorem dL_law_258 : decode cL_law 258 = .ok (.iadd, 1) := by decide +kernel
theorem dL_law_259 : decode cL_law 259 = .ok (.iaload, 1) := by decide +kernel
theorem dL_law_260 : decode cL_law 260 = .ok (.aload_n 0, 1) := by decide +kernel
theorem dL_law_261 : decode cL_law 261 = .ok (.iload_n 3, 1) := by decide +kernel
theorem dL_law_262 : decode cL_law 262 = .ok (.iconst 3, 1) := by decide +kernel
theorem dL_law_263 : decode cL_law 263 = .ok (.iadd, 1) := by decide +kernel
theorem dL_law_264 : decode cL_law 264 = .ok (.iaload, 1) := by decide +kernel
theorem dL_law_265 : decode cL_law 265 = .ok (.invokevirtual 26, 3) := by decide +kernel
theorem dL_law_268 : decode cL_law 268 = .ok (.if_icmp .eq 873, 3) := by decide +kernel
theorem dL_law_271 : decode cL_law 271 = .ok (.iconst 0, 1) := by decide +kernel
theorem dL_law_272 : decode cL_law 272 = .ok (.ireturn, 1) := by decide +kernel
theorem dL_law_273 : decode cL_law 273 = .ok (.aload_n 1, 1) := by decide +kernel
theorem dL_law_274 : decode cL_law 274 = .ok (.aload_n 0, 1) := by decide +kernel
theorem dL_law_275 : decode cL_law 275 = .ok (.iload_n 3, 1) := by decide +kernel
theorem dL_law_276 : decode cL_law 276 = .ok (.iconst 1, 1) := by decide +kernel
theorem dL_law_277 : decode cL_law 277 = .ok (.iadd, 1) := by decide +kernel
theorem dL_law_278 : decode cL_law 278 = .ok (.iaload, 1) := by decide +kernel
theorem dL_law_279 : decode cL_law 279 = .ok (.invokevirtual 27, 3) := by decide +kernel
theorem dL_law_282 : decode cL_law 282 = .ok (.aload_n 2, 1) := by decide +kernel
theorem dL_law_283 : decode cL_law 283 = .ok (.aload_n 0, 1) := by decide +kernel
theorem dL_law_284 : decode cL_law 284 = .ok (.iload_n 3, 1) := by decide +kernel
theorem dL_law_285 : decode cL_law 285 = .ok (.iconst 1, 1) := by decide +kernel
theorem dL_law_286 : decode cL_law 286 = .ok (.iadd, 1) := by decide +kernel
theorem dL_law_287 : decode cL_law 287 = .ok (.iaload, 1) := by decide +kernel
theorem dL_law_288 : decode cL_law 288 = .ok (.invokevirtual 30, 3) := by decide +kernel
theorem dL_law_291 : decode cL_law 291 = .ok (.if_icmp .eq 850, 3) := by decide +kernel
theorem dL_law_294 : decode cL_law 294 = .ok (.iconst 0, 1) := by decide +kernel
theorem dL_law_295 : decode cL_law 295 = .ok (.ireturn, 1) := by decide +kernel
theorem dL_law_296 : decode cL_law 296 = .ok (.aload_n 1, 1) := by decide +kernel
theorem dL_law_297 : decode cL_law 297 = .ok (.aload_n 0, 1) := by decide +kernel
theorem dL_law_298 : decode cL_law 298 = .ok (.iload_n 3, 1) := by decide +kernel
theorem dL_law_299 : decode cL_law 299 = .ok (.iconst 1, 1) := by decide +kernel
theorem dL_law_300 : decode cL_law 300 = .ok (.iadd, 1) := by decide +kernel
theorem dL_law_301 : decode cL_law 301 = .ok (.iaload, 1) := by decide +kernel
theorem dL_law_302 : decode cL_law 302 = .ok (.invokevirtual 31, 3) := by decide +kernel
theorem dL_law_305 : decode cL_law 305 = .ok (.aload_n 2, 1) := by decide +kernel
theorem dL_law_306 : decode cL_law 306 = .ok (.aload_n 0, 1) := by decide +kernel
theorem dL_law_307 : decode cL_law 307 = .ok (.iload_n 3, 1) := by decide +kernel
end
section
theorem dL_law_308 : decode cL_law 308 = .ok (.iconst 1, 1) := by decide +kernel
theorem dL_law_309 : decode cL_law 309 = .ok (.iadd, 1) := by decide +kernel
theorem dL_law_310 : decode cL_law 310 = .ok (.iaload, 1) := by decide +kernel
theorem dL_law_311 : decode cL_law 311 = .ok (.invokevirtual 34, 3) := by decide +kernel
theorem dL_law_314 : decode cL_law 314 = .ok (.if_icmp .eq 827, 3) := by decide +kernel
theorem dL_law_317 : decode cL_law 317 = .ok (.iconst 0, 1) := by decide +kernel
theorem dL_law_318 : decode cL_law 318 = .ok (.ireturn, 1) := by decide +kernel
theorem dL_law_319 : decode cL_law 319 = .ok (.aload_n 1, 1) := by decide +kernel
theorem dL_law_320 : decode cL_law 320 = .ok (.aload_n 0, 1) := by decide +kernel
theorem dL_law_321 : decode cL_law 321 = .ok (.iload_n 3, 1) := by decide +kernel
theorem dL_law_322 : decode cL_law 322 = .ok (.iconst 1, 1) := by decide +kernel
theorem dL_law_323 : decode cL_law 323 = .ok (.iadd, 1) := by decide +kernel
theorem dL_law_324 : decode cL_law 324 = .ok (.iaload, 1) := by decide +kernel
theorem dL_law_325 : decode cL_law 325 = .ok (.aload_n 0, 1) := by decide +kernel
theorem dL_law_326 : decode cL_law 326 = .ok (.iload_n 3, 1) := by decide +kernel
theorem dL_law_327 : decode cL_law 327 = .ok (.iconst 2, 1) := by decide +kernel
theorem dL_law_328 : decode cL_law 328 = .ok (.iadd, 1) := by decide +kernel
theorem dL_law_329 : decode cL_law 329 = .ok (.iaload, 1) := by decide +kernel
theorem dL_law_330 : decode cL_law 330 = .ok (.invokevirtual 35, 3) := by decide +kernel
theorem dL_law_333 : decode cL_law 333 = .ok (.aload_n 2, 1) := by decide +kernel
theorem dL_law_334 : decode cL_law 334 = .ok (.aload_n 0, 1) := by decide +kernel
theorem dL_law_335 : decode cL_law 335 = .ok (.iload_n 3, 1) := by decide +kernel
theorem dL_law_336 : decode cL_law 336 = .ok (.iconst 1, 1) := by decide +kernel
theorem dL_law_337 : decode cL_law 337 = .ok (.iadd, 1) := by decide +kernel
theorem dL_law_338 : decode cL_law 338 = .ok (.iaload, 1) := by decide +kernel
theorem dL_law_339 : decode cL_law 339 = .ok (.aload_n 0, 1) := by decide +kernel
theorem dL_law_340 : decode cL_law 340 = .ok (.iload_n 3, 1) := by decide +kernel
theorem dL_law_341 : decode cL_law 341 = .ok (.iconst 2, 1) := by decide +kernel
theorem dL_law_342 : decode cL_law 342 = .ok (.iadd, 1) := by decide +kernel
theorem dL_law_343 : decode cL_law 343 = .ok (.iaload, 1) := by decide +kernel
theorem dL_law_344 : decode cL_law 344 = .ok (.invokevirtual 39, 3) := by decide +kernel
theorem dL_law_347 : decode cL_law 347 = .ok (.if_icmp .eq 794, 3) := by decide +kernel
theorem dL_law_350 : decode cL_law 350 = .ok (.iconst 0, 1) := by decide +kernel
theorem dL_law_351 : decode cL_law 351 = .ok (.ireturn, 1) := by decide +kernel
theorem dL_law_352 : decode cL_law 352 = .ok (.aload_n 1, 1) := by decide +kernel
theorem dL_law_353 : decode cL_law 353 = .ok (.aload_n 0, 1) := by decide +kernel
theorem dL_law_354 : decode cL_law 354 = .ok (.iload_n 3, 1) := by decide +kernel
theorem dL_law_355 : decode cL_law 355 = .ok (.iconst 1, 1) := by decide +kernel
theorem dL_law_356 : decode cL_law 356 = .ok (.iadd, 1) := by decide +kernel
theorem dL_law_357 : decode cL_law 357 = .ok (.iaload, 1) := by decide +kernel
theorem dL_law_358 : decode cL_law 358 = .ok (.aload_n 0, 1) := by decide +kernel
theorem dL_law_359 : decode cL_law 359 = .ok (.iload_n 3, 1) := by decide +kernel
theorem dL_law_360 : decode cL_law 360 = .ok (.iconst 2, 1) := by decide +kernel
theorem dL_law_361 : decode cL_law 361 = .ok (.iadd, 1) := by decide +kernel
theorem dL_law_362 : decode cL_law 362 = .ok (.iaload, 1) := by decide +kernel
theorem dL_law_363 : decode cL_law 363 = .ok (.invokevirtual 40, 3) := by decide +kernel
theorem dL_law_366 : decode cL_law 366 = .ok (.aload_n 2, 1) := by decide +kernel
theorem dL_law_367 : decode cL_law 367 = .ok (.aload_n 0, 1) := by decide +kernel
theorem dL_law_368 : decode cL_law 368 = .ok (.iload_n 3, 1) := by decide +kernel
theorem dL_law_369 : decode cL_law 369 = .ok (.iconst 1, 1) := by decide +kernel
theorem dL_law_370 : decode cL_law 370 = .ok (.iadd, 1) := by decide +kernel
theorem dL_law_371 : decode cL_law 371 = .ok (.iaload, 1) := by decide +kernel
theorem dL_law_372 : decode cL_law 372 = .ok (.aload_n 0, 1) := by decide +kernel
theorem dL_law_373 : decode cL_law 373 = .ok (.iload_n 3, 1) := by decide +kernel
theorem dL_law_374 : decode cL_law 374 = .ok (.iconst 2, 1) := by decide +kernel
theorem dL_law_375 : decode cL_law 375 = .ok (.iadd, 1) := by decide +kernel
theorem dL_law_376 : decode cL_law 376 = .ok (.iaload, 1) := by decide +kernel
theorem dL_law_377 : decode cL_law 377 = .ok (.invokevirtual 43, 3) := by decide +kernel
theorem dL_law_380 : decode cL_law 380 = .ok (.if_icmp .eq 761, 3) := by decide +kernel
theorem dL_law_383 : decode cL_law 383 = .ok (.iconst 0, 1) := by decide +kernel
theorem dL_law_384 : decode cL_law 384 = .ok (.ireturn, 1) := by decide +kernel
theorem dL_law_385 : decode cL_law 385 = .ok (.aload_n 1, 1) := by decide +kernel
theorem dL_law_386 : decode cL_law 386 = .ok (.aload_n 0, 1) := by decide +kernel
theorem dL_law_387 : decode cL_law 387 = .ok (.iload_n 3, 1) := by decide +kernel
theorem dL_law_388 : decode cL_law 388 = .ok (.iconst 1, 1) := by decide +kernel
theorem dL_law_389 : decode cL_law 389 = .ok (.iadd, 1) := by decide +kernel
theorem dL_law_390 : decode cL_law 390 = .ok (.iaload, 1) := by decide +kernel
theorem dL_law_391 : decode cL_law 391 = .ok (.aload_n 0, 1) := by decide +kernel
theorem dL_law_392 : decode cL_law 392 = .ok (.iload_n 3, 1) := by decide +kernel
theorem dL_law_393 : decode cL_law 393 = .ok (.iconst 2, 1) := by decide +kernel
theorem dL_law_394 : decode cL_law 394 = .ok (.iadd, 1) := by decide +kernel
theorem dL_law_395 : decode cL_law 395 = .ok (.iaload, 1) := by decide +kernel
theorem dL_law_396 : decode cL_law 396 = .ok (.invokevirtual 44, 3) := by decide +kernel
theorem dL_law_399 : decode cL_law 399 = .ok (.aload_n 2, 1) := by decide +kernel
theorem dL_law_400 : decode cL_law 400 = .ok (.aload_n 0, 1) := by decide +kernel
theorem dL_law_401 : decode cL_law 401 = .ok (.iload_n 3, 1) := by decide +kernel
theorem dL_law_402 : decode cL_law 402 = .ok (.iconst 1, 1) := by decide +kernel
theorem dL_law_403 : decode cL_law 403 = .ok (.iadd, 1) := by decide +kernel
theorem dL_law_404 : decode cL_law 404 = .ok (.iaload, 1) := by decide +kernel
theorem dL_law_405 : decode cL_law 405 = .ok (.aload_n 0, 1) := by decide +kernel
theorem dL_law_406 : decode cL_law 406 = .ok (.iload_n 3, 1) := by decide +kernel
theorem dL_law_407 : decode cL_law 407 = .ok (.iconst 2, 1) := by decide +kernel
theorem dL_law_408 : decode cL_law 408 = .ok (.iadd, 1) := by decide +kernel
theorem dL_law_409 : decode cL_law 409 = .ok (.iaload, 1) := by decide +kernel
theorem dL_law_410 : decode cL_law 410 = .ok (.invokevirtual 47, 3) := by decide +kernel
theorem dL_law_413 : decode cL_law 413 = .ok (.if_icmp .eq 728, 3) := by decide +kernel
theorem dL_law_416 : decode cL_law 416 = .ok (.iconst 0, 1) := by decide +kernel
theorem dL_law_417 : decode cL_law 417 = .ok (.ireturn, 1) := by decide +kernel
theorem dL_law_418 : decode cL_law 418 = .ok (.aload_n 1, 1) := by decide +kernel
theorem dL_law_419 : decode cL_law 419 = .ok (.aload_n 0, 1) := by decide +kernel
theorem dL_law_420 : decode cL_law 420 = .ok (.iload_n 3, 1) := by decide +kernel
theorem dL_law_421 : decode cL_law 421 = .ok (.iconst 1, 1) := by decide +kernel
theorem dL_law_422 : decode cL_law 422 = .ok (.iadd, 1) := by decide +kernel
theorem dL_law_423 : decode cL_law 423 = .ok (.iaload, 1) := by decide +kernel
theorem dL_law_424 : decode cL_law 424 = .ok (.aload_n 0, 1) := by decide +kernel
theorem dL_law_425 : decode cL_law 425 = .ok (.iload_n 3, 1) := by decide +kernel
theorem dL_law_426 : decode cL_law 426 = .ok (.iconst 2, 1) := by decide +kernel
theorem dL_law_427 : decode cL_law 427 = .ok (.iadd, 1) := by decide +kernel
theorem dL_law_428 : decode cL_law 428 = .ok (.iaload, 1) := by decide +kernel
theorem dL_law_429 : decode cL_law 429 = .ok (.aload_n 0, 1) := by decide +kernel
theorem dL_law_430 : decode cL_law 430 = .ok (.iload_n 3, 1) := by decide +kernel
theorem dL_law_431 : decode cL_law 431 = .ok (.iconst 3, 1) := by decide +kernel
theorem dL_law_432 : decode cL_law 432 = .ok (.iadd, 1) := by decide +kernel
theorem dL_law_433 : decode cL_law 433 = .ok (.iaload, 1) := by decide +kernel
theorem dL_law_434 : decode cL_law 434 = .ok (.invokevirtual 48, 3) := by decide +kernel
theorem dL_law_437 : decode cL_law 437 = .ok (.aload_n 2, 1) := by decide +kernel
theorem dL_law_438 : decode cL_law 438 = .ok (.aload_n 0, 1) := by decide +kernel
theorem dL_law_439 : decode cL_law 439 = .ok (.iload_n 3, 1) := by decide +kernel
theorem dL_law_440 : decode cL_law 440 = .ok (.iconst 1, 1) := by decide +kernel
theorem dL_law_441 : decode cL_law 441 = .ok (.iadd, 1) := by decide +kernel
theorem dL_law_442 : decode cL_law 442 = .ok (.iaload, 1) := by decide +kernel
theorem dL_law_443 : decode cL_law 443 = .ok (.aload_n 0, 1) := by decide +kernel
theorem dL_law_444 : decode cL_law 444 = .ok (.iload_n 3, 1) := by decide +kernel
theorem dL_law_445 : decode cL_law 445 = .ok (.iconst 2, 1) := by decide +kernel
theorem dL_law_446 : decode cL_law 446 = .ok (.iadd, 1) := by decide +kernel
theorem dL_law_447 : decode cL_law 447 = .ok (.iaload, 1) := by decide +kernel
theorem dL_law_448 : decode cL_law 448 = .ok (.aload_n 0, 1) := by decide +kernel
theorem dL_law_449 : decode cL_law 449 = .ok (.iload_n 3, 1) := by decide +kernel
theorem dL_law_450 : decode cL_law 450 = .ok (.iconst 3, 1) := by decide +kernel
theorem dL_law_451 : decode cL_law 451 = .ok (.iadd, 1) := by decide +kernel
theorem dL_law_452 : decode cL_law 452 = .ok (.iaload, 1) := by decide +kernel
theorem dL_law_453 : decode cL_law 453 = .ok (.invokevirtual 51, 3) := by decide +kernel
theorem dL_law_456 : decode cL_law 456 = .ok (.if_icmp .eq 685, 3) := by decide +kernel
theorem dL_law_459 : decode cL_law 459 = .ok (.iconst 0, 1) := by decide +kernel
theorem dL_law_460 : decode cL_law 460 = .ok (.ireturn, 1) := by decide +kernel
theorem dL_law_461 : decode cL_law 461 = .ok (.aload_n 1, 1) := by decide +kernel
theorem dL_law_462 : decode cL_law 462 = .ok (.aload_n 0, 1) := by decide +kernel
theorem dL_law_463 : decode cL_law 463 = .ok (.iload_n 3, 1) := by decide +kernel
theorem dL_law_464 : decode cL_law 464 = .ok (.iconst 1, 1) := by decide +kernel
theorem dL_law_465 : decode cL_law 465 = .ok (.iadd, 1) := by decide +kernel
theorem dL_law_466 : decode cL_law 466 = .ok (.iaload, 1) := by decide +kernel
theorem dL_law_467 : decode cL_law 467 = .ok (.aload_n 0, 1) := by decide +kernel
theorem dL_law_468 : decode cL_law 468 = .ok (.iload_n 3, 1) := by decide +kernel
theorem dL_law_469 : decode cL_law 469 = .ok (.iconst 2, 1) := by decide +kernel
theorem dL_law_470 : decode cL_law 470 = .ok (.iadd, 1) := by decide +kernel
theorem dL_law_471 : decode cL_law 471 = .ok (.iaload, 1) := by decide +kernel
theorem dL_law_472 : decode cL_law 472 = .ok (.aload_n 0, 1) := by decide +kernel
theorem dL_law_473 : decode cL_law 473 = .ok (.iload_n 3, 1) := by decide +kernel
theorem dL_law_474 : decode cL_law 474 = .ok (.iconst 3, 1) := by decide +kernel
theorem dL_law_475 : decode cL_law 475 = .ok (.iadd, 1) := by decide +kernel
end
section
theorem dL_law_476 : decode cL_law 476 = .ok (.iaload, 1) := by decide +kernel
theorem dL_law_477 : decode cL_law 477 = .ok (.invokevirtual 52, 3) := by decide +kernel
theorem dL_law_480 : decode cL_law 480 = .ok (.aload_n 2, 1) := by decide +kernel
theorem dL_law_481 : decode cL_law 481 = .ok (.aload_n 0, 1) := by decide +kernel
theorem dL_law_482 : decode cL_law 482 = .ok (.iload_n 3, 1) := by decide +kernel
theorem dL_law_483 : decode cL_law 483 = .ok (.iconst 1, 1) := by decide +kernel
theorem dL_law_484 : decode cL_law 484 = .ok (.iadd, 1) := by decide +kernel
theorem dL_law_485 : decode cL_law 485 = .ok (.iaload, 1) := by decide +kernel
theorem dL_law_486 : decode cL_law 486 = .ok (.aload_n 0, 1) := by decide +kernel
theorem dL_law_487 : decode cL_law 487 = .ok (.iload_n 3, 1) := by decide +kernel
theorem dL_law_488 : decode cL_law 488 = .ok (.iconst 2, 1) := by decide +kernel
theorem dL_law_489 : decode cL_law 489 = .ok (.iadd, 1) := by decide +kernel
theorem dL_law_490 : decode cL_law 490 = .ok (.iaload, 1) := by decide +kernel
theorem dL_law_491 : decode cL_law 491 = .ok (.aload_n 0, 1) := by decide +kernel
theorem dL_law_492 : decode cL_law 492 = .ok (.iload_n 3, 1) := by decide +kernel
theorem dL_law_493 : decode cL_law 493 = .ok (.iconst 3, 1) := by decide +kernel
theorem dL_law_494 : decode cL_law 494 = .ok (.iadd, 1) := by decide +kernel
theorem dL_law_495 : decode cL_law 495 = .ok (.iaload, 1) := by decide +kernel
theorem dL_law_496 : decode cL_law 496 = .ok (.invokevirtual 55, 3) := by decide +kernel
theorem dL_law_499 : decode cL_law 499 = .ok (.if_icmp .eq 642, 3) := by decide +kernel
theorem dL_law_502 : decode cL_law 502 = .ok (.iconst 0, 1) := by decide +kernel
theorem dL_law_503 : decode cL_law 503 = .ok (.ireturn, 1) := by decide +kernel
theorem dL_law_504 : decode cL_law 504 = .ok (.aload_n 1, 1) := by decide +kernel
theorem dL_law_505 : decode cL_law 505 = .ok (.aload_n 0, 1) := by decide +kernel
theorem dL_law_506 : decode cL_law 506 = .ok (.iload_n 3, 1) := by decide +kernel
theorem dL_law_507 : decode cL_law 507 = .ok (.iconst 1, 1) := by decide +kernel
theorem dL_law_508 : decode cL_law 508 = .ok (.iadd, 1) := by decide +kernel
theorem dL_law_509 : decode cL_law 509 = .ok (.iaload, 1) := by decide +kernel
theorem dL_law_510 : decode cL_law 510 = .ok (.aload_n 0, 1) := by decide +kernel
theorem dL_law_511 : decode cL_law 511 = .ok (.iload_n 3, 1) := by decide +kernel
theorem dL_law_512 : decode cL_law 512 = .ok (.iconst 2, 1) := by decide +kernel
theorem dL_law_513 : decode cL_law 513 = .ok (.iadd, 1) := by decide +kernel
theorem dL_law_514 : decode cL_law 514 = .ok (.iaload, 1) := by decide +kernel
theorem dL_law_515 : decode cL_law 515 = .ok (.invokevirtual 56, 3) := by decide +kernel
theorem dL_law_518 : decode cL_law 518 = .ok (.aload_n 2, 1) := by decide +kernel
theorem dL_law_519 : decode cL_law 519 = .ok (.aload_n 0, 1) := by decide +kernel
theorem dL_law_520 : decode cL_law 520 = .ok (.iload_n 3, 1) := by decide +kernel
theorem dL_law_521 : decode cL_law 521 = .ok (.iconst 1, 1) := by decide +kernel
theorem dL_law_522 : decode cL_law 522 = .ok (.iadd, 1) := by decide +kernel
theorem dL_law_523 : decode cL_law 523 = .ok (.iaload, 1) := by decide +kernel
theorem dL_law_524 : decode cL_law 524 = .ok (.aload_n 0, 1) := by decide +kernel
theorem dL_law_525 : decode cL_law 525 = .ok (.iload_n 3, 1) := by decide +kernel
theorem dL_law_526 : decode cL_law 526 = .ok (.iconst 2, 1) := by decide +kernel
theorem dL_law_527 : decode cL_law 527 = .ok (.iadd, 1) := by decide +kernel
theorem dL_law_528 : decode cL_law 528 = .ok (.iaload, 1) := by decide +kernel
theorem dL_law_529 : decode cL_law 529 = .ok (.invokevirtual 59, 3) := by decide +kernel
theorem dL_law_532 : decode cL_law 532 = .ok (.if_icmp .eq 609, 3) := by decide +kernel
theorem dL_law_535 : decode cL_law 535 = .ok (.iconst 0, 1) := by decide +kernel
theorem dL_law_536 : decode cL_law 536 = .ok (.ireturn, 1) := by decide +kernel
theorem dL_law_537 : decode cL_law 537 = .ok (.aload_n 1, 1) := by decide +kernel
theorem dL_law_538 : decode cL_law 538 = .ok (.aload_n 0, 1) := by decide +kernel
theorem dL_law_539 : decode cL_law 539 = .ok (.iload_n 3, 1) := by decide +kernel
theorem dL_law_540 : decode cL_law 540 = .ok (.iconst 1, 1) := by decide +kernel
theorem dL_law_541 : decode cL_law 541 = .ok (.iadd, 1) := by decide +kernel
theorem dL_law_542 : decode cL_law 542 = .ok (.iaload, 1) := by decide +kernel
theorem dL_law_543 : decode cL_law 543 = .ok (.aload_n 0, 1) := by decide +kernel
theorem dL_law_544 : decode cL_law 544 = .ok (.iload_n 3, 1) := by decide +kernel
theorem dL_law_545 : decode cL_law 545 = .ok (.iconst 2, 1) := by decide +kernel
theorem dL_law_546 : decode cL_law 546 = .ok (.iadd, 1) := by decide +kernel
theorem dL_law_547 : decode cL_law 547 = .ok (.iaload, 1) := by decide +kernel
theorem dL_law_548 : decode cL_law 548 = .ok (.aload_n 0, 1) := by decide +kernel
theorem dL_law_549 : decode cL_law 549 = .ok (.iload_n 3, 1) := by decide +kernel
theorem dL_law_550 : decode cL_law 550 = .ok (.iconst 3, 1) := by decide +kernel
theorem dL_law_551 : decode cL_law 551 = .ok (.iadd, 1) := by decide +kernel
theorem dL_law_552 : decode cL_law 552 = .ok (.iaload, 1) := by decide +kernel
theorem dL_law_553 : decode cL_law 553 = .ok (.invokevirtual 60, 3) := by decide +kernel
theorem dL_law_556 : decode cL_law 556 = .ok (.aload_n 2, 1) := by decide +kernel
theorem dL_law_557 : decode cL_law 557 = .ok (.aload_n 0, 1) := by decide +kernel
theorem dL_law_558 : decode cL_law 558 = .ok (.iload_n 3, 1) := by decide +kernel
theorem dL_law_559 : decode cL_law 559 = .ok (.iconst 1, 1) := by decide +kernel
theorem dL_law_560 : decode cL_law 560 = .ok (.iadd, 1) := by decide +kernel
theorem dL_law_561 : decode cL_law 561 = .ok (.iaload, 1) := by decide +kernel
theorem dL_law_562 : decode cL_law 562 = .ok (.aload_n 0, 1) := by decide +kernel
theorem dL_law_563 : decode cL_law 563 = .ok (.iload_n 3, 1) := by decide +kernel
theorem dL_law_564 : decode cL_law 564 = .ok (.iconst 2, 1) := by decide +kernel
theorem dL_law_565 : decode cL_law 565 = .ok (.iadd, 1) := by decide +kernel
theorem dL_law_566 : decode cL_law 566 = .ok (.iaload, 1) := by decide +kernel
theorem dL_law_567 : decode cL_law 567 = .ok (.aload_n 0, 1) := by decide +kernel
theorem dL_law_568 : decode cL_law 568 = .ok (.iload_n 3, 1) := by decide +kernel
theorem dL_law_569 : decode cL_law 569 = .ok (.iconst 3, 1) := by decide +kernel
theorem dL_law_570 : decode cL_law 570 = .ok (.iadd, 1) := by decide +kernel
theorem dL_law_571 : decode cL_law 571 = .ok (.iaload, 1) := by decide +kernel
theorem dL_law_572 : decode cL_law 572 = .ok (.invokevirtual 63, 3) := by decide +kernel
theorem dL_law_575 : decode cL_law 575 = .ok (.if_icmp .eq 566, 3) := by decide +kernel
theorem dL_law_578 : decode cL_law 578 = .ok (.iconst 0, 1) := by decide +kernel
theorem dL_law_579 : decode cL_law 579 = .ok (.ireturn, 1) := by decide +kernel
theorem dL_law_580 : decode cL_law 580 = .ok (.aload_n 1, 1) := by decide +kernel
theorem dL_law_581 : decode cL_law 581 = .ok (.aload_n 0, 1) := by decide +kernel
theorem dL_law_582 : decode cL_law 582 = .ok (.iload_n 3, 1) := by decide +kernel
theorem dL_law_583 : decode cL_law 583 = .ok (.iconst 1, 1) := by decide +kernel
theorem dL_law_584 : decode cL_law 584 = .ok (.iadd, 1) := by decide +kernel
theorem dL_law_585 : decode cL_law 585 = .ok (.iaload, 1) := by decide +kernel
theorem dL_law_586 : decode cL_law 586 = .ok (.aload_n 0, 1) := by decide +kernel
theorem dL_law_587 : decode cL_law 587 = .ok (.iload_n 3, 1) := by decide +kernel
theorem dL_law_588 : decode cL_law 588 = .ok (.iconst 2, 1) := by decide +kernel
theorem dL_law_589 : decode cL_law 589 = .ok (.iadd, 1) := by decide +kernel
theorem dL_law_590 : decode cL_law 590 = .ok (.iaload, 1) := by decide +kernel
theorem dL_law_591 : decode cL_law 591 = .ok (.aload_n 0, 1) := by decide +kernel
theorem dL_law_592 : decode cL_law 592 = .ok (.iload_n 3, 1) := by decide +kernel
theorem dL_law_593 : decode cL_law 593 = .ok (.iconst 3, 1) := by decide +kernel
theorem dL_law_594 : decode cL_law 594 = .ok (.iadd, 1) := by decide +kernel
theorem dL_law_595 : decode cL_law 595 = .ok (.iaload, 1) := by decide +kernel
theorem dL_law_596 : decode cL_law 596 = .ok (.aload_n 0, 1) := by decide +kernel
theorem dL_law_597 : decode cL_law 597 = .ok (.iload_n 3, 1) := by decide +kernel
theorem dL_law_598 : decode cL_law 598 = .ok (.iconst 4, 1) := by decide +kernel
theorem dL_law_599 : decode cL_law 599 = .ok (.iadd, 1) := by decide +kernel
theorem dL_law_600 : decode cL_law 600 = .ok (.iaload, 1) := by decide +kernel
theorem dL_law_601 : decode cL_law 601 = .ok (.invokevirtual 64, 3) := by decide +kernel
theorem dL_law_604 : decode cL_law 604 = .ok (.aload_n 2, 1) := by decide +kernel
theorem dL_law_605 : decode cL_law 605 = .ok (.aload_n 0, 1) := by decide +kernel
theorem dL_law_606 : decode cL_law 606 = .ok (.iload_n 3, 1) := by decide +kernel
theorem dL_law_607 : decode cL_law 607 = .ok (.iconst 1, 1) := by decide +kernel
theorem dL_law_608 : decode cL_law 608 = .ok (.iadd, 1) := by decide +kernel
theorem dL_law_609 : decode cL_law 609 = .ok (.iaload, 1) := by decide +kernel
theorem dL_law_610 : decode cL_law 610 = .ok (.aload_n 0, 1) := by decide +kernel
theorem dL_law_611 : decode cL_law 611 = .ok (.iload_n 3, 1) := by decide +kernel
theorem dL_law_612 : decode cL_law 612 = .ok (.iconst 2, 1) := by decide +kernel
theorem dL_law_613 : decode cL_law 613 = .ok (.iadd, 1) := by decide +kernel
theorem dL_law_614 : decode cL_law 614 = .ok (.iaload, 1) := by decide +kernel
theorem dL_law_615 : decode cL_law 615 = .ok (.aload_n 0, 1) := by decide +kernel
theorem dL_law_616 : decode cL_law 616 = .ok (.iload_n 3, 1) := by decide +kernel
theorem dL_law_617 : decode cL_law 617 = .ok (.iconst 3, 1) := by decide +kernel
theorem dL_law_618 : decode cL_law 618 = .ok (.iadd, 1) := by decide +kernel
theorem dL_law_619 : decode cL_law 619 = .ok (.iaload, 1) := by decide +kernel
theorem dL_law_620 : decode cL_law 620 = .ok (.aload_n 0, 1) := by decide +kernel
theorem dL_law_621 : decode cL_law 621 = .ok (.iload_n 3, 1) := by decide +kernel
theorem dL_law_622 : decode cL_law 622 = .ok (.iconst 4, 1) := by decide +kernel
theorem dL_law_623 : decode cL_law 623 = .ok (.iadd, 1) := by decide +kernel
theorem dL_law_624 : decode cL_law 624 = .ok (.iaload, 1) := by decide +kernel
theorem dL_law_625 : decode cL_law 625 = .ok (.invokevirtual 68, 3) := by decide +kernel
theorem dL_law_628 : decode cL_law 628 = .ok (.if_icmp .eq 513, 3) := by decide +kernel
theorem dL_law_631 : decode cL_law 631 = .ok (.iconst 0, 1) := by decide +kernel
theorem dL_law_632 : decode cL_law 632 = .ok (.ireturn, 1) := by decide +kernel
theorem dL_law_633 : decode cL_law 633 = .ok (.aload_n 1, 1) := by decide +kernel
theorem dL_law_634 : decode cL_law 634 = .ok (.aload_n 0, 1) := by decide +kernel
theorem dL_law_635 : decode cL_law 635 = .ok (.iload_n 3, 1) := by decide +kernel
theorem dL_law_636 : decode cL_law 636 = .ok (.iconst 1, 1) := by decide +kernel
theorem dL_law_637 : decode cL_law 637 = .ok (.iadd, 1) := by decide +kernel
theorem dL_law_638 : decode cL_law 638 = .ok (.iaload, 1) := by decide +kernel
theorem dL_law_639 : decode cL_law 639 = .ok (.aload_n 0, 1) := by decide +kernel
end
section
theorem dL_law_640 : decode cL_law 640 = .ok (.iload_n 3, 1) := by decide +kernel
theorem dL_law_641 : decode cL_law 641 = .ok (.iconst 2, 1) := by decide +kernel
theorem dL_law_642 : decode cL_law 642 = .ok (.iadd, 1) := by decide +kernel
theorem dL_law_643 : decode cL_law 643 = .ok (.iaload, 1) := by decide +kernel
theorem dL_law_644 : decode cL_law 644 = .ok (.aload_n 0, 1) := by decide +kernel
theorem dL_law_645 : decode cL_law 645 = .ok (.iload_n 3, 1) := by decide +kernel
theorem dL_law_646 : decode cL_law 646 = .ok (.iconst 3, 1) := by decide +kernel
theorem dL_law_647 : decode cL_law 647 = .ok (.iadd, 1) := by decide +kernel
theorem dL_law_648 : decode cL_law 648 = .ok (.iaload, 1) := by decide +kernel
theorem dL_law_649 : decode cL_law 649 = .ok (.invokevirtual 69, 3) := by decide +kernel
theorem dL_law_652 : decode cL_law 652 = .ok (.aload_n 2, 1) := by decide +kernel
theorem dL_law_653 : decode cL_law 653 = .ok (.aload_n 0, 1) := by decide +kernel
theorem dL_law_654 : decode cL_law 654 = .ok (.iload_n 3, 1) := by decide +kernel
theorem dL_law_655 : decode cL_law 655 = .ok (.iconst 1, 1) := by decide +kernel
theorem dL_law_656 : decode cL_law 656 = .ok (.iadd, 1) := by decide +kernel
theorem dL_law_657 : decode cL_law 657 = .ok (.iaload, 1) := by decide +kernel
theorem dL_law_658 : decode cL_law 658 = .ok (.aload_n 0, 1) := by decide +kernel
theorem dL_law_659 : decode cL_law 659 = .ok (.iload_n 3, 1) := by decide +kernel
theorem dL_law_660 : decode cL_law 660 = .ok (.iconst 2, 1) := by decide +kernel
theorem dL_law_661 : decode cL_law 661 = .ok (.iadd, 1) := by decide +kernel
theorem dL_law_662 : decode cL_law 662 = .ok (.iaload, 1) := by decide +kernel
theorem dL_law_663 : decode cL_law 663 = .ok (.aload_n 0, 1) := by decide +kernel
theorem dL_law_664 : decode cL_law 664 = .ok (.iload_n 3, 1) := by decide +kernel
theorem dL_law_665 : decode cL_law 665 = .ok (.iconst 3, 1) := by decide +kernel
theorem dL_law_666 : decode cL_law 666 = .ok (.iadd, 1) := by decide +kernel
theorem dL_law_667 : decode cL_law 667 = .ok (.iaload, 1) := by decide +kernel
theorem dL_law_668 : decode cL_law 668 = .ok (.invokevirtual 72, 3) := by decide +kernel
theorem dL_law_671 : decode cL_law 671 = .ok (.if_icmp .eq 470, 3) := by decide +kernel
theorem dL_law_674 : decode cL_law 674 = .ok (.iconst 0, 1) := by decide +kernel
theorem dL_law_675 : decode cL_law 675 = .ok (.ireturn, 1) := by decide +kernel
theorem dL_law_676 : decode cL_law 676 = .ok (.aload_n 1, 1) := by decide +kernel
theorem dL_law_677 : decode cL_law 677 = .ok (.aload_n 0, 1) := by decide +kernel
theorem dL_law_678 : decode cL_law 678 = .ok (.iload_n 3, 1) := by decide +kernel
theorem dL_law_679 : decode cL_law 679 = .ok (.iconst 1, 1) := by decide +kernel
theorem dL_law_680 : decode cL_law 680 = .ok (.iadd, 1) := by decide +kernel
theorem dL_law_681 : decode cL_law 681 = .ok (.iaload, 1) := by decide +kernel
theorem dL_law_682 : decode cL_law 682 = .ok (.aload_n 0, 1) := by decide +kernel
theorem dL_law_683 : decode cL_law 683 = .ok (.iload_n 3, 1) := by decide +kernel
theorem dL_law_684 : decode cL_law 684 = .ok (.iconst 2, 1) := by decide +kernel
theorem dL_law_685 : decode cL_law 685 = .ok (.iadd, 1) := by decide +kernel
theorem dL_law_686 : decode cL_law 686 = .ok (.iaload, 1) := by decide +kernel
theorem dL_law_687 : decode cL_law 687 = .ok (.aload_n 0, 1) := by decide +kernel
theorem dL_law_688 : decode cL_law 688 = .ok (.iload_n 3, 1) := by decide +kernel
theorem dL_law_689 : decode cL_law 689 = .ok (.iconst 3, 1) := by decide +kernel
theorem dL_law_690 : decode cL_law 690 = .ok (.iadd, 1) := by decide +kernel
theorem dL_law_691 : decode cL_law 691 = .ok (.iaload, 1) := by decide +kernel
theorem dL_law_692 : decode cL_law 692 = .ok (.invokevirtual 73, 3) := by decide +kernel
theorem dL_law_695 : decode cL_law 695 = .ok (.aload_n 2, 1) := by decide +kernel
theorem dL_law_696 : decode cL_law 696 = .ok (.aload_n 0, 1) := by decide +kernel
theorem dL_law_697 : decode cL_law 697 = .ok (.iload_n 3, 1) := by decide +kernel
theorem dL_law_698 : decode cL_law 698 = .ok (.iconst 1, 1) := by decide +kernel
theorem dL_law_699 : decode cL_law 699 = .ok (.iadd, 1) := by decide +kernel
theorem dL_law_700 : decode cL_law 700 = .ok (.iaload, 1) := by decide +kernel
theorem dL_law_701 : decode cL_law 701 = .ok (.aload_n 0, 1) := by decide +kernel
theorem dL_law_702 : decode cL_law 702 = .ok (.iload_n 3, 1) := by decide +kernel
theorem dL_law_703 : decode cL_law 703 = .ok (.iconst 2, 1) := by decide +kernel
theorem dL_law_704 : decode cL_law 704 = .ok (.iadd, 1) := by decide +kernel
theorem dL_law_705 : decode cL_law 705 = .ok (.iaload, 1) := by decide +kernel
theorem dL_law_706 : decode cL_law 706 = .ok (.aload_n 0, 1) := by decide +kernel
theorem dL_law_707 : decode cL_law 707 = .ok (.iload_n 3, 1) := by decide +kernel
theorem dL_law_708 : decode cL_law 708 = .ok (.iconst 3, 1) := by decide +kernel
theorem dL_law_709 : decode cL_law 709 = .ok (.iadd, 1) := by decide +kernel
theorem dL_law_710 : decode cL_law 710 = .ok (.iaload, 1) := by decide +kernel
theorem dL_law_711 : decode cL_law 711 = .ok (.invokevirtual 76, 3) := by decide +kernel
theorem dL_law_714 : decode cL_law 714 = .ok (.if_icmp .eq 427, 3) := by decide +kernel
theorem dL_law_717 : decode cL_law 717 = .ok (.iconst 0, 1) := by decide +kernel
theorem dL_law_718 : decode cL_law 718 = .ok (.ireturn, 1) := by decide +kernel
theorem dL_law_719 : decode cL_law 719 = .ok (.aload_n 1, 1) := by decide +kernel
theorem dL_law_720 : decode cL_law 720 = .ok (.aload_n 0, 1) := by decide +kernel
theorem dL_law_721 : decode cL_law 721 = .ok (.iload_n 3, 1) := by decide +kernel
theorem dL_law_722 : decode cL_law 722 = .ok (.iconst 1, 1) := by decide +kernel
theorem dL_law_723 : decode cL_law 723 = .ok (.iadd, 1) := by decide +kernel
theorem dL_law_724 : decode cL_law 724 = .ok (.iaload, 1) := by decide +kernel
theorem dL_law_725 : decode cL_law 725 = .ok (.invokevirtual 77, 3) := by decide +kernel
theorem dL_law_728 : decode cL_law 728 = .ok (.aload_n 2, 1) := by decide +kernel
theorem dL_law_729 : decode cL_law 729 = .ok (.aload_n 0, 1) := by decide +kernel
theorem dL_law_730 : decode cL_law 730 = .ok (.iload_n 3, 1) := by decide +kernel
theorem dL_law_731 : decode cL_law 731 = .ok (.iconst 1, 1) := by decide +kernel
theorem dL_law_732 : decode cL_law 732 = .ok (.iadd, 1) := by decide +kernel
theorem dL_law_733 : decode cL_law 733 = .ok (.iaload, 1) := by decide +kernel
theorem dL_law_734 : decode cL_law 734 = .ok (.invokevirtual 80, 3) := by decide +kernel
theorem dL_law_737 : decode cL_law 737 = .ok (.if_icmp .eq 404, 3) := by decide +kernel
theorem dL_law_740 : decode cL_law 740 = .ok (.iconst 0, 1) := by decide +kernel
theorem dL_law_741 : decode cL_law 741 = .ok (.ireturn, 1) := by decide +kernel
theorem dL_law_742 : decode cL_law 742 = .ok (.aload_n 1, 1) := by decide +kernel
theorem dL_law_743 : decode cL_law 743 = .ok (.invokevirtual 81, 3) := by decide +kernel
theorem dL_law_746 : decode cL_law 746 = .ok (.aload_n 2, 1) := by decide +kernel
theorem dL_law_747 : decode cL_law 747 = .ok (.invokevirtual 85, 3) := by decide +kernel
theorem dL_law_750 : decode cL_law 750 = .ok (.if_icmp .eq 391, 3) := by decide +kernel
theorem dL_law_753 : decode cL_law 753 = .ok (.iconst 0, 1) := by decide +kernel
theorem dL_law_754 : decode cL_law 754 = .ok (.ireturn, 1) := by decide +kernel
theorem dL_law_755 : decode cL_law 755 = .ok (.aload_n 1, 1) := by decide +kernel
theorem dL_law_756 : decode cL_law 756 = .ok (.aload_n 0, 1) := by decide +kernel
theorem dL_law_757 : decode cL_law 757 = .ok (.iload_n 3, 1) := by decide +kernel
theorem dL_law_758 : decode cL_law 758 = .ok (.iconst 1, 1) := by decide +kernel
theorem dL_law_759 : decode cL_law 759 = .ok (.iadd, 1) := by decide +kernel
theorem dL_law_760 : decode cL_law 760 = .ok (.iaload, 1) := by decide +kernel
theorem dL_law_761 : decode cL_law 761 = .ok (.invokevirtual 86, 3) := by decide +kernel
theorem dL_law_764 : decode cL_law 764 = .ok (.aload_n 2, 1) := by decide +kernel
theorem dL_law_765 : decode cL_law 765 = .ok (.aload_n 0, 1) := by decide +kernel
theorem dL_law_766 : decode cL_law 766 = .ok (.iload_n 3, 1) := by decide +kernel
theorem dL_law_767 : decode cL_law 767 = .ok (.iconst 1, 1) := by decide +kernel
theorem dL_law_768 : decode cL_law 768 = .ok (.iadd, 1) := by decide +kernel
theorem dL_law_769 : decode cL_law 769 = .ok (.iaload, 1) := by decide +kernel
theorem dL_law_770 : decode cL_law 770 = .ok (.invokevirtual 89, 3) := by decide +kernel
theorem dL_law_773 : decode cL_law 773 = .ok (.if_icmp .eq 368, 3) := by decide +kernel
theorem dL_law_776 : decode cL_law 776 = .ok (.iconst 0, 1) := by decide +kernel
theorem dL_law_777 : decode cL_law 777 = .ok (.ireturn, 1) := by decide +kernel
theorem dL_law_778 : decode cL_law 778 = .ok (.aload_n 1, 1) := by decide +kernel
theorem dL_law_779 : decode cL_law 779 = .ok (.aload_n 0, 1) := by decide +kernel
theorem dL_law_780 : decode cL_law 780 = .ok (.iload_n 3, 1) := by decide +kernel
theorem dL_law_781 : decode cL_law 781 = .ok (.iconst 1, 1) := by decide +kernel
theorem dL_law_782 : decode cL_law 782 = .ok (.iadd, 1) := by decide +kernel
theorem dL_law_783 : decode cL_law 783 = .ok (.iaload, 1) := by decide +kernel
theorem dL_law_784 : decode cL_law 784 = .ok (.aload_n 0, 1) := by decide +kernel
theorem dL_law_785 : decode cL_law 785 = .ok (.iload_n 3, 1) := by decide +kernel
theorem dL_law_786 : decode cL_law 786 = .ok (.iconst 2, 1) := by decide +kernel
theorem dL_law_787 : decode cL_law 787 = .ok (.iadd, 1) := by decide +kernel
theorem dL_law_788 : decode cL_law 788 = .ok (.iaload, 1) := by decide +kernel
theorem dL_law_789 : decode cL_law 789 = .ok (.aload_n 0, 1) := by decide +kernel
theorem dL_law_790 : decode cL_law 790 = .ok (.iload_n 3, 1) := by decide +kernel
theorem dL_law_791 : decode cL_law 791 = .ok (.iconst 3, 1) := by decide +kernel
theorem dL_law_792 : decode cL_law 792 = .ok (.iadd, 1) := by decide +kernel
theorem dL_law_793 : decode cL_law 793 = .ok (.iaload, 1) := by decide +kernel
theorem dL_law_794 : decode cL_law 794 = .ok (.aload_n 0, 1) := by decide +kernel
theorem dL_law_795 : decode cL_law 795 = .ok (.iload_n 3, 1) := by decide +kernel
theorem dL_law_796 : decode cL_law 796 = .ok (.iconst 4, 1) := by decide +kernel
theorem dL_law_797 : decode cL_law 797 = .ok (.iadd, 1) := by decide +kernel
theorem dL_law_798 : decode cL_law 798 = .ok (.iaload, 1) := by decide +kernel
theorem dL_law_799 : decode cL_law 799 = .ok (.invokevirtual 90, 3) := by decide +kernel
theorem dL_law_802 : decode cL_law 802 = .ok (.aload_n 2, 1) := by decide +kernel
theorem dL_law_803 : decode cL_law 803 = .ok (.aload_n 0, 1) := by decide +kernel
theorem dL_law_804 : decode cL_law 804 = .ok (.iload_n 3, 1) := by decide +kernel
theorem dL_law_805 : decode cL_law 805 = .ok (.iconst 1, 1) := by decide +kernel
theorem dL_law_806 : decode cL_law 806 = .ok (.iadd, 1) := by decide +kernel
theorem dL_law_807 : decode cL_law 807 = .ok (.iaload, 1) := by decide +kernel
theorem dL_law_808 : decode cL_law 808 = .ok (.aload_n 0, 1) := by decide +kernel
theorem dL_law_809 : decode cL_law 809 = .ok (.iload_n 3, 1) := by decide +kernel
theorem dL_law_810 : decode cL_law 810 = .ok (.iconst 2, 1) := by decide +kernel
theorem dL_law_811 : decode cL_law 811 = .ok (.iadd, 1) := by decide +kernel
end
section
theorem dL_law_812 : decode cL_law 812 = .ok (.iaload, 1) := by decide +kernel
theorem dL_law_813 : decode cL_law 813 = .ok (.aload_n 0, 1) := by decide +kernel
theorem dL_law_814 : decode cL_law 814 = .ok (.iload_n 3, 1) := by decide +kernel
theorem dL_law_815 : decode cL_law 815 = .ok (.iconst 3, 1) := by decide +kernel
theorem dL_law_816 : decode cL_law 816 = .ok (.iadd, 1) := by decide +kernel
theorem dL_law_817 : decode cL_law 817 = .ok (.iaload, 1) := by decide +kernel
theorem dL_law_818 : decode cL_law 818 = .ok (.aload_n 0, 1) := by decide +kernel
theorem dL_law_819 : decode cL_law 819 = .ok (.iload_n 3, 1) := by decide +kernel
theorem dL_law_820 : decode cL_law 820 = .ok (.iconst 4, 1) := by decide +kernel
theorem dL_law_821 : decode cL_law 821 = .ok (.iadd, 1) := by decide +kernel
theorem dL_law_822 : decode cL_law 822 = .ok (.iaload, 1) := by decide +kernel
theorem dL_law_823 : decode cL_law 823 = .ok (.invokevirtual 93, 3) := by decide +kernel
theorem dL_law_826 : decode cL_law 826 = .ok (.if_icmp .eq 315, 3) := by decide +kernel
theorem dL_law_829 : decode cL_law 829 = .ok (.iconst 0, 1) := by decide +kernel
theorem dL_law_830 : decode cL_law 830 = .ok (.ireturn, 1) := by decide +kernel
theorem dL_law_831 : decode cL_law 831 = .ok (.aload_n 1, 1) := by decide +kernel
theorem dL_law_832 : decode cL_law 832 = .ok (.aload_n 0, 1) := by decide +kernel
theorem dL_law_833 : decode cL_law 833 = .ok (.iload_n 3, 1) := by decide +kernel
theorem dL_law_834 : decode cL_law 834 = .ok (.iconst 1, 1) := by decide +kernel
theorem dL_law_835 : decode cL_law 835 = .ok (.iadd, 1) := by decide +kernel
theorem dL_law_836 : decode cL_law 836 = .ok (.iaload, 1) := by decide +kernel
theorem dL_law_837 : decode cL_law 837 = .ok (.aload_n 0, 1) := by decide +kernel
theorem dL_law_838 : decode cL_law 838 = .ok (.iload_n 3, 1) := by decide +kernel
theorem dL_law_839 : decode cL_law 839 = .ok (.iconst 2, 1) := by decide +kernel
theorem dL_law_840 : decode cL_law 840 = .ok (.iadd, 1) := by decide +kernel
theorem dL_law_841 : decode cL_law 841 = .ok (.iaload, 1) := by decide +kernel
theorem dL_law_842 : decode cL_law 842 = .ok (.aload_n 0, 1) := by decide +kernel
theorem dL_law_843 : decode cL_law 843 = .ok (.iload_n 3, 1) := by decide +kernel
theorem dL_law_844 : decode cL_law 844 = .ok (.iconst 3, 1) := by decide +kernel
theorem dL_law_845 : decode cL_law 845 = .ok (.iadd, 1) := by decide +kernel
theorem dL_law_846 : decode cL_law 846 = .ok (.iaload, 1) := by decide +kernel
theorem dL_law_847 : decode cL_law 847 = .ok (.aload_n 0, 1) := by decide +kernel
theorem dL_law_848 : decode cL_law 848 = .ok (.iload_n 3, 1) := by decide +kernel
theorem dL_law_849 : decode cL_law 849 = .ok (.iconst 4, 1) := by decide +kernel
theorem dL_law_850 : decode cL_law 850 = .ok (.iadd, 1) := by decide +kernel
theorem dL_law_851 : decode cL_law 851 = .ok (.iaload, 1) := by decide +kernel
theorem dL_law_852 : decode cL_law 852 = .ok (.invokevirtual 94, 3) := by decide +kernel
theorem dL_law_855 : decode cL_law 855 = .ok (.aload_n 2, 1) := by decide +kernel
theorem dL_law_856 : decode cL_law 856 = .ok (.aload_n 0, 1) := by decide +kernel
theorem dL_law_857 : decode cL_law 857 = .ok (.iload_n 3, 1) := by decide +kernel
theorem dL_law_858 : decode cL_law 858 = .ok (.iconst 1, 1) := by decide +kernel
theorem dL_law_859 : decode cL_law 859 = .ok (.iadd, 1) := by decide +kernel
theorem dL_law_860 : decode cL_law 860 = .ok (.iaload, 1) := by decide +kernel
theorem dL_law_861 : decode cL_law 861 = .ok (.aload_n 0, 1) := by decide +kernel
theorem dL_law_862 : decode cL_law 862 = .ok (.iload_n 3, 1) := by decide +kernel
theorem dL_law_863 : decode cL_law 863 = .ok (.iconst 2, 1) := by decide +kernel
theorem dL_law_864 : decode cL_law 864 = .ok (.iadd, 1) := by decide +kernel
theorem dL_law_865 : decode cL_law 865 = .ok (.iaload, 1) := by decide +kernel
theorem dL_law_866 : decode cL_law 866 = .ok (.aload_n 0, 1) := by decide +kernel
theorem dL_law_867 : decode cL_law 867 = .ok (.iload_n 3, 1) := by decide +kernel
theorem dL_law_868 : decode cL_law 868 = .ok (.iconst 3, 1) := by decide +kernel
theorem dL_law_869 : decode cL_law 869 = .ok (.iadd, 1) := by decide +kernel
theorem dL_law_870 : decode cL_law 870 = .ok (.iaload, 1) := by decide +kernel
theorem dL_law_871 : decode cL_law 871 = .ok (.aload_n 0, 1) := by decide +kernel
theorem dL_law_872 : decode cL_law 872 = .ok (.iload_n 3, 1) := by decide +kernel
theorem dL_law_873 : decode cL_law 873 = .ok (.iconst 4, 1) := by decide +kernel
theorem dL_law_874 : decode cL_law 874 = .ok (.iadd, 1) := by decide +kernel
theorem dL_law_875 : decode cL_law 875 = .ok (.iaload, 1) := by decide +kernel
theorem dL_law_876 : decode cL_law 876 = .ok (.invokevirtual 97, 3) := by decide +kernel
theorem dL_law_879 : decode cL_law 879 = .ok (.if_icmp .eq 262, 3) := by decide +kernel
theorem dL_law_882 : decode cL_law 882 = .ok (.iconst 0, 1) := by decide +kernel
theorem dL_law_883 : decode cL_law 883 = .ok (.ireturn, 1) := by decide +kernel
theorem dL_law_884 : decode cL_law 884 = .ok (.aload_n 1, 1) := by decide +kernel
theorem dL_law_885 : decode cL_law 885 = .ok (.aload_n 0, 1) := by decide +kernel
theorem dL_law_886 : decode cL_law 886 = .ok (.iload_n 3, 1) := by decide +kernel
theorem dL_law_887 : decode cL_law 887 = .ok (.iconst 1, 1) := by decide +kernel
theorem dL_law_888 : decode cL_law 888 = .ok (.iadd, 1) := by decide +kernel
theorem dL_law_889 : decode cL_law 889 = .ok (.iaload, 1) := by decide +kernel
theorem dL_law_890 : decode cL_law 890 = .ok (.aload_n 0, 1) := by decide +kernel
theorem dL_law_891 : decode cL_law 891 = .ok (.iload_n 3, 1) := by decide +kernel
theorem dL_law_892 : decode cL_law 892 = .ok (.iconst 2, 1) := by decide +kernel
theorem dL_law_893 : decode cL_law 893 = .ok (.iadd, 1) := by decide +kernel
theorem dL_law_894 : decode cL_law 894 = .ok (.iaload, 1) := by decide +kernel
theorem dL_law_895 : decode cL_law 895 = .ok (.aload_n 0, 1) := by decide +kernel
theorem dL_law_896 : decode cL_law 896 = .ok (.iload_n 3, 1) := by decide +kernel
theorem dL_law_897 : decode cL_law 897 = .ok (.iconst 3, 1) := by decide +kernel
theorem dL_law_898 : decode cL_law 898 = .ok (.iadd, 1) := by decide +kernel
theorem dL_law_899 : decode cL_law 899 = .ok (.iaload, 1) := by decide +kernel
theorem dL_law_900 : decode cL_law 900 = .ok (.invokevirtual 98, 3) := by decide +kernel
theorem dL_law_903 : decode cL_law 903 = .ok (.aload_n 2, 1) := by decide +kernel
theorem dL_law_904 : decode cL_law 904 = .ok (.aload_n 0, 1) := by decide +kernel
theorem dL_law_905 : decode cL_law 905 = .ok (.iload_n 3, 1) := by decide +kernel
theorem dL_law_906 : decode cL_law 906 = .ok (.iconst 1, 1) := by decide +kernel
theorem dL_law_907 : decode cL_law 907 = .ok (.iadd, 1) := by decide +kernel
theorem dL_law_908 : decode cL_law 908 = .ok (.iaload, 1) := by decide +kernel
theorem dL_law_909 : decode cL_law 909 = .ok (.aload_n 0, 1) := by decide +kernel
theorem dL_law_910 : decode cL_law 910 = .ok (.iload_n 3, 1) := by decide +kernel
theorem dL_law_911 : decode cL_law 911 = .ok (.iconst 2, 1) := by decide +kernel
theorem dL_law_912 : decode cL_law 912 = .ok (.iadd, 1) := by decide +kernel
theorem dL_law_913 : decode cL_law 913 = .ok (.iaload, 1) := by decide +kernel
theorem dL_law_914 : decode cL_law 914 = .ok (.aload_n 0, 1) := by decide +kernel
theorem dL_law_915 : decode cL_law 915 = .ok (.iload_n 3, 1) := by decide +kernel
theorem dL_law_916 : decode cL_law 916 = .ok (.iconst 3, 1) := by decide +kernel
theorem dL_law_917 : decode cL_law 917 = .ok (.iadd, 1) := by decide +kernel
theorem dL_law_918 : decode cL_law 918 = .ok (.iaload, 1) := by decide +kernel
theorem dL_law_919 : decode cL_law 919 = .ok (.invokevirtual 101, 3) := by decide +kernel
theorem dL_law_922 : decode cL_law 922 = .ok (.if_icmp .eq 219, 3) := by decide +kernel
theorem dL_law_925 : decode cL_law 925 = .ok (.iconst 0, 1) := by decide +kernel
theorem dL_law_926 : decode cL_law 926 = .ok (.ireturn, 1) := by decide +kernel
theorem dL_law_927 : decode cL_law 927 = .ok (.aload_n 1, 1) := by decide +kernel
theorem dL_law_928 : decode cL_law 928 = .ok (.aload_n 0, 1) := by decide +kernel
theorem dL_law_929 : decode cL_law 929 = .ok (.iload_n 3, 1) := by decide +kernel
theorem dL_law_930 : decode cL_law 930 = .ok (.iconst 1, 1) := by decide +kernel
theorem dL_law_931 : decode cL_law 931 = .ok (.iadd, 1) := by decide +kernel
theorem dL_law_932 : decode cL_law 932 = .ok (.iaload, 1) := by decide +kernel
theorem dL_law_933 : decode cL_law 933 = .ok (.invokevirtual 102, 3) := by decide +kernel
theorem dL_law_936 : decode cL_law 936 = .ok (.aload_n 2, 1) := by decide +kernel
theorem dL_law_937 : decode cL_law 937 = .ok (.aload_n 0, 1) := by decide +kernel
theorem dL_law_938 : decode cL_law 938 = .ok (.iload_n 3, 1) := by decide +kernel
theorem dL_law_939 : decode cL_law 939 = .ok (.iconst 1, 1) := by decide +kernel
theorem dL_law_940 : decode cL_law 940 = .ok (.iadd, 1) := by decide +kernel
theorem dL_law_941 : decode cL_law 941 = .ok (.iaload, 1) := by decide +kernel
theorem dL_law_942 : decode cL_law 942 = .ok (.invokevirtual 105, 3) := by decide +kernel
theorem dL_law_945 : decode cL_law 945 = .ok (.if_icmp .eq 196, 3) := by decide +kernel
theorem dL_law_948 : decode cL_law 948 = .ok (.iconst 0, 1) := by decide +kernel
theorem dL_law_949 : decode cL_law 949 = .ok (.ireturn, 1) := by decide +kernel
theorem dL_law_950 : decode cL_law 950 = .ok (.aload_n 1, 1) := by decide +kernel
theorem dL_law_951 : decode cL_law 951 = .ok (.aload_n 0, 1) := by decide +kernel
theorem dL_law_952 : decode cL_law 952 = .ok (.iload_n 3, 1) := by decide +kernel
theorem dL_law_953 : decode cL_law 953 = .ok (.iconst 1, 1) := by decide +kernel
theorem dL_law_954 : decode cL_law 954 = .ok (.iadd, 1) := by decide +kernel
theorem dL_law_955 : decode cL_law 955 = .ok (.iaload, 1) := by decide +kernel
theorem dL_law_956 : decode cL_law 956 = .ok (.aload_n 0, 1) := by decide +kernel
theorem dL_law_957 : decode cL_law 957 = .ok (.iload_n 3, 1) := by decide +kernel
theorem dL_law_958 : decode cL_law 958 = .ok (.iconst 2, 1) := by decide +kernel
theorem dL_law_959 : decode cL_law 959 = .ok (.iadd, 1) := by decide +kernel
theorem dL_law_960 : decode cL_law 960 = .ok (.iaload, 1) := by decide +kernel
theorem dL_law_961 : decode cL_law 961 = .ok (.invokevirtual 106, 3) := by decide +kernel
theorem dL_law_964 : decode cL_law 964 = .ok (.aload_n 2, 1) := by decide +kernel
theorem dL_law_965 : decode cL_law 965 = .ok (.aload_n 0, 1) := by decide +kernel
theorem dL_law_966 : decode cL_law 966 = .ok (.iload_n 3, 1) := by decide +kernel
theorem dL_law_967 : decode cL_law 967 = .ok (.iconst 1, 1) := by decide +kernel
theorem dL_law_968 : decode cL_law 968 = .ok (.iadd, 1) := by decide +kernel
theorem dL_law_969 : decode cL_law 969 = .ok (.iaload, 1) := by decide +kernel
theorem dL_law_970 : decode cL_law 970 = .ok (.aload_n 0, 1) := by decide +kernel
theorem dL_law_971 : decode cL_law 971 = .ok (.iload_n 3, 1) := by decide +kernel
theorem dL_law_972 : decode cL_law 972 = .ok (.iconst 2, 1) := by decide +kernel
theorem dL_law_973 : decode cL_law 973 = .ok (.iadd, 1) := by decide +kernel
theorem dL_law_974 : decode cL_law 974 = .ok (.iaload, 1) := by decide +kernel
theorem dL_law_975 : decode cL_law 975 = .ok (.invokevirtual 109, 3) := by decide +kernel
end
section
theorem dL_law_978 : decode cL_law 978 = .ok (.if_icmp .eq 163, 3) := by decide +kernel
theorem dL_law_981 : decode cL_law 981 = .ok (.iconst 0, 1) := by decide +kernel
theorem dL_law_982 : decode cL_law 982 = .ok (.ireturn, 1) := by decide +kernel
theorem dL_law_983 : decode cL_law 983 = .ok (.aload_n 1, 1) := by decide +kernel
theorem dL_law_984 : decode cL_law 984 = .ok (.aload_n 0, 1) := by decide +kernel
theorem dL_law_985 : decode cL_law 985 = .ok (.iload_n 3, 1) := by decide +kernel
theorem dL_law_986 : decode cL_law 986 = .ok (.iconst 1, 1) := by decide +kernel
theorem dL_law_987 : decode cL_law 987 = .ok (.iadd, 1) := by decide +kernel
theorem dL_law_988 : decode cL_law 988 = .ok (.iaload, 1) := by decide +kernel
theorem dL_law_989 : decode cL_law 989 = .ok (.aload_n 0, 1) := by decide +kernel
theorem dL_law_990 : decode cL_law 990 = .ok (.iload_n 3, 1) := by decide +kernel
theorem dL_law_991 : decode cL_law 991 = .ok (.iconst 2, 1) := by decide +kernel
theorem dL_law_992 : decode cL_law 992 = .ok (.iadd, 1) := by decide +kernel
theorem dL_law_993 : decode cL_law 993 = .ok (.iaload, 1) := by decide +kernel
theorem dL_law_994 : decode cL_law 994 = .ok (.invokevirtual 110, 3) := by decide +kernel
theorem dL_law_997 : decode cL_law 997 = .ok (.aload_n 2, 1) := by decide +kernel
theorem dL_law_998 : decode cL_law 998 = .ok (.aload_n 0, 1) := by decide +kernel
theorem dL_law_999 : decode cL_law 999 = .ok (.iload_n 3, 1) := by decide +kernel
theorem dL_law_1000 : decode cL_law 1000 = .ok (.iconst 1, 1) := by decide +kernel
theorem dL_law_1001 : decode cL_law 1001 = .ok (.iadd, 1) := by decide +kernel
theorem dL_law_1002 : decode cL_law 1002 = .ok (.iaload, 1) := by decide +kernel
theorem dL_law_1003 : decode cL_law 1003 = .ok (.aload_n 0, 1) := by decide +kernel
theorem dL_law_1004 : decode cL_law 1004 = .ok (.iload_n 3, 1) := by decide +kernel
theorem dL_law_1005 : decode cL_law 1005 = .ok (.iconst 2, 1) := by decide +kernel
theorem dL_law_1006 : decode cL_law 1006 = .ok (.iadd, 1) := by decide +kernel
theorem dL_law_1007 : decode cL_law 1007 = .ok (.iaload, 1) := by decide +kernel
theorem dL_law_1008 : decode cL_law 1008 = .ok (.invokevirtual 113, 3) := by decide +kernel
theorem dL_law_1011 : decode cL_law 1011 = .ok (.if_icmp .eq 130, 3) := by decide +kernel
theorem dL_law_1014 : decode cL_law 1014 = .ok (.iconst 0, 1) := by decide +kernel
theorem dL_law_1015 : decode cL_law 1015 = .ok (.ireturn, 1) := by decide +kernel
theorem dL_law_1016 : decode cL_law 1016 = .ok (.aload_n 1, 1) := by decide +kernel
theorem dL_law_1017 : decode cL_law 1017 = .ok (.aload_n 0, 1) := by decide +kernel
theorem dL_law_1018 : decode cL_law 1018 = .ok (.iload_n 3, 1) := by decide +kernel
theorem dL_law_1019 : decode cL_law 1019 = .ok (.iconst 1, 1) := by decide +kernel
theorem dL_law_1020 : decode cL_law 1020 = .ok (.iadd, 1) := by decide +kernel
theorem dL_law_1021 : decode cL_law 1021 = .ok (.iaload, 1) := by decide +kernel
theorem dL_law_1022 : decode cL_law 1022 = .ok (.aload_n 0, 1) := by decide +kernel
theorem dL_law_1023 : decode cL_law 1023 = .ok (.iload_n 3, 1) := by decide +kernel
theorem dL_law_1024 : decode cL_law 1024 = .ok (.iconst 2, 1) := by decide +kernel
theorem dL_law_1025 : decode cL_law 1025 = .ok (.iadd, 1) := by decide +kernel
theorem dL_law_1026 : decode cL_law 1026 = .ok (.iaload, 1) := by decide +kernel
theorem dL_law_1027 : decode cL_law 1027 = .ok (.invokevirtual 114, 3) := by decide +kernel
theorem dL_law_1030 : decode cL_law 1030 = .ok (.aload_n 2, 1) := by decide +kernel
theorem dL_law_1031 : decode cL_law 1031 = .ok (.aload_n 0, 1) := by decide +kernel
theorem dL_law_1032 : decode cL_law 1032 = .ok (.iload_n 3, 1) := by decide +kernel
theorem dL_law_1033 : decode cL_law 1033 = .ok (.iconst 1, 1) := by decide +kernel
theorem dL_law_1034 : decode cL_law 1034 = .ok (.iadd, 1) := by decide +kernel
theorem dL_law_1035 : decode cL_law 1035 = .ok (.iaload, 1) := by decide +kernel
theorem dL_law_1036 : decode cL_law 1036 = .ok (.aload_n 0, 1) := by decide +kernel
theorem dL_law_1037 : decode cL_law 1037 = .ok (.iload_n 3, 1) := by decide +kernel
theorem dL_law_1038 : decode cL_law 1038 = .ok (.iconst 2, 1) := by decide +kernel
theorem dL_law_1039 : decode cL_law 1039 = .ok (.iadd, 1) := by decide +kernel
theorem dL_law_1040 : decode cL_law 1040 = .ok (.iaload, 1) := by decide +kernel
theorem dL_law_1041 : decode cL_law 1041 = .ok (.invokevirtual 117, 3) := by decide +kernel
theorem dL_law_1044 : decode cL_law 1044 = .ok (.if_icmp .eq 97, 3) := by decide +kernel
theorem dL_law_1047 : decode cL_law 1047 = .ok (.iconst 0, 1) := by decide +kernel
theorem dL_law_1048 : decode cL_law 1048 = .ok (.ireturn, 1) := by decide +kernel
theorem dL_law_1049 : decode cL_law 1049 = .ok (.aload_n 1, 1) := by decide +kernel
theorem dL_law_1050 : decode cL_law 1050 = .ok (.aload_n 0, 1) := by decide +kernel
theorem dL_law_1051 : decode cL_law 1051 = .ok (.iload_n 3, 1) := by decide +kernel
theorem dL_law_1052 : decode cL_law 1052 = .ok (.iconst 1, 1) := by decide +kernel
theorem dL_law_1053 : decode cL_law 1053 = .ok (.iadd, 1) := by decide +kernel
theorem dL_law_1054 : decode cL_law 1054 = .ok (.iaload, 1) := by decide +kernel
theorem dL_law_1055 : decode cL_law 1055 = .ok (.invokevirtual 118, 3) := by decide +kernel
theorem dL_law_1058 : decode cL_law 1058 = .ok (.aload_n 2, 1) := by decide +kernel
theorem dL_law_1059 : decode cL_law 1059 = .ok (.aload_n 0, 1) := by decide +kernel
theorem dL_law_1060 : decode cL_law 1060 = .ok (.iload_n 3, 1) := by decide +kernel
theorem dL_law_1061 : decode cL_law 1061 = .ok (.iconst 1, 1) := by decide +kernel
theorem dL_law_1062 : decode cL_law 1062 = .ok (.iadd, 1) := by decide +kernel
theorem dL_law_1063 : decode cL_law 1063 = .ok (.iaload, 1) := by decide +kernel
theorem dL_law_1064 : decode cL_law 1064 = .ok (.invokevirtual 121, 3) := by decide +kernel
theorem dL_law_1067 : decode cL_law 1067 = .ok (.if_icmp .eq 74, 3) := by decide +kernel
theorem dL_law_1070 : decode cL_law 1070 = .ok (.iconst 0, 1) := by decide +kernel
theorem dL_law_1071 : decode cL_law 1071 = .ok (.ireturn, 1) := by decide +kernel
theorem dL_law_1072 : decode cL_law 1072 = .ok (.aload_n 1, 1) := by decide +kernel
theorem dL_law_1073 : decode cL_law 1073 = .ok (.aload_n 0, 1) := by decide +kernel
theorem dL_law_1074 : decode cL_law 1074 = .ok (.iload_n 3, 1) := by decide +kernel
theorem dL_law_1075 : decode cL_law 1075 = .ok (.iconst 1, 1) := by decide +kernel
theorem dL_law_1076 : decode cL_law 1076 = .ok (.iadd, 1) := by decide +kernel
theorem dL_law_1077 : decode cL_law 1077 = .ok (.iaload, 1) := by decide +kernel
theorem dL_law_1078 : decode cL_law 1078 = .ok (.invokevirtual 122, 3) := by decide +kernel
theorem dL_law_1081 : decode cL_law 1081 = .ok (.aload_n 2, 1) := by decide +kernel
theorem dL_law_1082 : decode cL_law 1082 = .ok (.aload_n 0, 1) := by decide +kernel
theorem dL_law_1083 : decode cL_law 1083 = .ok (.iload_n 3, 1) := by decide +kernel
theorem dL_law_1084 : decode cL_law 1084 = .ok (.iconst 1, 1) := by decide +kernel
theorem dL_law_1085 : decode cL_law 1085 = .ok (.iadd, 1) := by decide +kernel
theorem dL_law_1086 : decode cL_law 1086 = .ok (.iaload, 1) := by decide +kernel
theorem dL_law_1087 : decode cL_law 1087 = .ok (.invokevirtual 125, 3) := by decide +kernel
theorem dL_law_1090 : decode cL_law 1090 = .ok (.if_icmp .eq 51, 3) := by decide +kernel
theorem dL_law_1093 : decode cL_law 1093 = .ok (.iconst 0, 1) := by decide +kernel
theorem dL_law_1094 : decode cL_law 1094 = .ok (.ireturn, 1) := by decide +kernel
theorem dL_law_1095 : decode cL_law 1095 = .ok (.aload_n 1, 1) := by decide +kernel
theorem dL_law_1096 : decode cL_law 1096 = .ok (.aload_n 0, 1) := by decide +kernel
theorem dL_law_1097 : decode cL_law 1097 = .ok (.iload_n 3, 1) := by decide +kernel
theorem dL_law_1098 : decode cL_law 1098 = .ok (.iconst 1, 1) := by decide +kernel
theorem dL_law_1099 : decode cL_law 1099 = .ok (.iadd, 1) := by decide +kernel
theorem dL_law_1100 : decode cL_law 1100 = .ok (.iaload, 1) := by decide +kernel
theorem dL_law_1101 : decode cL_law 1101 = .ok (.invokevirtual 126, 3) := by decide +kernel
theorem dL_law_1104 : decode cL_law 1104 = .ok (.aload_n 2, 1) := by decide +kernel
theorem dL_law_1105 : decode cL_law 1105 = .ok (.aload_n 0, 1) := by decide +kernel
theorem dL_law_1106 : decode cL_law 1106 = .ok (.iload_n 3, 1) := by decide +kernel
theorem dL_law_1107 : decode cL_law 1107 = .ok (.iconst 1, 1) := by decide +kernel
theorem dL_law_1108 : decode cL_law 1108 = .ok (.iadd, 1) := by decide +kernel
theorem dL_law_1109 : decode cL_law 1109 = .ok (.iaload, 1) := by decide +kernel
theorem dL_law_1110 : decode cL_law 1110 = .ok (.invokevirtual 129, 3) := by decide +kernel
theorem dL_law_1113 : decode cL_law 1113 = .ok (.if_icmp .eq 28, 3) := by decide +kernel
theorem dL_law_1116 : decode cL_law 1116 = .ok (.iconst 0, 1) := by decide +kernel
theorem dL_law_1117 : decode cL_law 1117 = .ok (.ireturn, 1) := by decide +kernel
theorem dL_law_1118 : decode cL_law 1118 = .ok (.aload_n 1, 1) := by decide +kernel
theorem dL_law_1119 : decode cL_law 1119 = .ok (.aload_n 0, 1) := by decide +kernel
theorem dL_law_1120 : decode cL_law 1120 = .ok (.iload_n 3, 1) := by decide +kernel
theorem dL_law_1121 : decode cL_law 1121 = .ok (.iconst 1, 1) := by decide +kernel
theorem dL_law_1122 : decode cL_law 1122 = .ok (.iadd, 1) := by decide +kernel
theorem dL_law_1123 : decode cL_law 1123 = .ok (.iaload, 1) := by decide +kernel
theorem dL_law_1124 : decode cL_law 1124 = .ok (.invokevirtual 130, 3) := by decide +kernel
theorem dL_law_1127 : decode cL_law 1127 = .ok (.aload_n 2, 1) := by decide +kernel
theorem dL_law_1128 : decode cL_law 1128 = .ok (.aload_n 0, 1) := by decide +kernel
theorem dL_law_1129 : decode cL_law 1129 = .ok (.iload_n 3, 1) := by decide +kernel
theorem dL_law_1130 : decode cL_law 1130 = .ok (.iconst 1, 1) := by decide +kernel
theorem dL_law_1131 : decode cL_law 1131 = .ok (.iadd, 1) := by decide +kernel
theorem dL_law_1132 : decode cL_law 1132 = .ok (.iaload, 1) := by decide +kernel
theorem dL_law_1133 : decode cL_law 1133 = .ok (.invokevirtual 133, 3) := by decide +kernel
theorem dL_law_1136 : decode cL_law 1136 = .ok (.if_icmp .eq 5, 3) := by decide +kernel
theorem dL_law_1139 : decode cL_law 1139 = .ok (.iconst 0, 1) := by decide +kernel
theorem dL_law_1140 : decode cL_law 1140 = .ok (.ireturn, 1) := by decide +kernel
theorem dL_law_1141 : decode cL_law 1141 = .ok (.iinc 3 5, 3) := by decide +kernel
theorem dL_law_1144 : decode cL_law 1144 = .ok (.goto (-1126), 3) := by decide +kernel
theorem dL_law_1147 : decode cL_law 1147 = .ok (.iconst 1, 1) := by decide +kernel
theorem dL_law_1148 : decode cL_law 1148 = .ok (.ireturn, 1) := by decide +kernel
end
section
-- the words that every contract stands on: those of the tables that hold at every later state
def wU : List Cond := lw_tbl.filter goodWord
theorem wU_m {w : Cond} (i : Nat) (h : lw_tbl[i]? = some w) (g : goodWord w = true) : w ∈ wU := List.mem_filter.mpr ⟨List.mem_of_getElem? h, g⟩
theorem wU_good {w : Cond} (h : w ∈ wU) : goodWord w = true := (List.mem_filter.mp h).2
theorem wU_tbl {w : Cond} (h : w ∈ wU) : w ∈ lw_tbl := (List.mem_filter.mp h).1
theorem wU_G {y : MethodName} {b : ByteArray} {mL : Nat} {ret : Option FieldType} (h : Cond.code y b mL ret ∈ wU) : GoodIn wU (Cond.code y b mL ret :: wU) := by
  intro w hw
  have hm : w ∈ wU := by
    rcases List.mem_cons.mp hw with e | e
    · rw [e]; exact h
    · exact e
  exact ⟨hm, good_of_word (wU_good hm)⟩
def rmk (k mc ms : Nat) : Room := { frames := k, cells := mc, slots := ms, locals := 100 * k }
theorem m_0 : (.selects "ConeRounds" ⟨"ConeRounds", "finding", "(I)I"⟩ ⟨"ConeRounds", "finding", "(I)I"⟩ : Cond) ∈ wU := wU_m 0 (by decide +kernel) (by decide +kernel)
theorem m_1 : (.selects "ConeRounds" ⟨"ConeRounds", "vanNumber", "(I)LConeRounds$Van;"⟩ ⟨"ConeRounds", "vanNumber", "(I)LConeRounds$Van;"⟩ : Cond) ∈ wU := wU_m 1 (by decide +kernel) (by decide +kernel)
theorem m_2 : (.selects "ConeRounds" ⟨"ConeRounds", "mayStand", "(LConeRounds$Van;II)Z"⟩ ⟨"ConeRounds", "mayStand", "(LConeRounds$Van;II)Z"⟩ : Cond) ∈ wU := wU_m 2 (by decide +kernel) (by decide +kernel)
theorem m_3 : (.selects "ConeRounds" ⟨"ConeRounds", "isBarred", "(II)Z"⟩ ⟨"ConeRounds", "isBarred", "(II)Z"⟩ : Cond) ∈ wU := wU_m 3 (by decide +kernel) (by decide +kernel)
theorem m_4 : (.selects "ConeRounds" ⟨"ConeRounds", "makePlan", "(III)I"⟩ ⟨"ConeRounds", "makePlan", "(III)I"⟩ : Cond) ∈ wU := wU_m 4 (by decide +kernel) (by decide +kernel)
theorem m_5 : (.selects "ConeRounds" ⟨"ConeRounds", "isPlace", "(I)Z"⟩ ⟨"ConeRounds", "isPlace", "(I)Z"⟩ : Cond) ∈ wU := wU_m 5 (by decide +kernel) (by decide +kernel)
theorem m_6 : (.selects "ConeRounds" ⟨"ConeRounds", "explore", "(LConeRounds$Van;III)V"⟩ ⟨"ConeRounds", "explore", "(LConeRounds$Van;III)V"⟩ : Cond) ∈ wU := wU_m 6 (by decide +kernel) (by decide +kernel)
theorem m_7 : (.selects "ConeRounds$Trail" ⟨"ConeRounds$Trail", "wasLatelyIn", "(II)Z"⟩ ⟨"ConeRounds$Trail", "wasLatelyIn", "(II)Z"⟩ : Cond) ∈ wU := wU_m 7 (by decide +kernel) (by decide +kernel)
theorem m_8 : (.selects "ConeRounds" ⟨"ConeRounds", "hoursBetween", "(LConeRounds$Van;II)I"⟩ ⟨"ConeRounds", "hoursBetween", "(LConeRounds$Van;II)I"⟩ : Cond) ∈ wU := wU_m 8 (by decide +kernel) (by decide +kernel)
theorem m_9 : (.selects "ConeRounds" ⟨"ConeRounds", "faultOf", "(I)I"⟩ ⟨"ConeRounds", "faultOf", "(I)I"⟩ : Cond) ∈ wU := wU_m 9 (by decide +kernel) (by decide +kernel)
theorem m_10 : (.selects "ConeRounds" ⟨"ConeRounds", "isTooSoon", "(LConeRounds$Van;I)Z"⟩ ⟨"ConeRounds", "isTooSoon", "(LConeRounds$Van;I)Z"⟩ : Cond) ∈ wU := wU_m 10 (by decide +kernel) (by decide +kernel)
theorem m_11 : (.selects "ConeRounds" ⟨"ConeRounds", "holderOf", "(I)I"⟩ ⟨"ConeRounds", "holderOf", "(I)I"⟩ : Cond) ∈ wU := wU_m 11 (by decide +kernel) (by decide +kernel)
theorem m_12 : (.selects "ConeRounds" ⟨"ConeRounds", "isPair", "(I)Z"⟩ ⟨"ConeRounds", "isPair", "(I)Z"⟩ : Cond) ∈ wU := wU_m 12 (by decide +kernel) (by decide +kernel)
theorem m_13 : (.selects "ConeRounds" ⟨"ConeRounds", "shareOf", "(IIIII)I"⟩ ⟨"ConeRounds", "shareOf", "(IIIII)I"⟩ : Cond) ∈ wU := wU_m 13 (by decide +kernel) (by decide +kernel)
theorem m_14 : (.selects "ConeRounds" ⟨"ConeRounds", "areTwoVans", "(II)Z"⟩ ⟨"ConeRounds", "areTwoVans", "(II)Z"⟩ : Cond) ∈ wU := wU_m 14 (by decide +kernel) (by decide +kernel)
theorem m_15 : (.selects "ConeRounds" ⟨"ConeRounds", "isBalance", "(IIIII)Z"⟩ ⟨"ConeRounds", "isBalance", "(IIIII)Z"⟩ : Cond) ∈ wU := wU_m 15 (by decide +kernel) (by decide +kernel)
theorem m_16 : (.selects "ConeRounds" ⟨"ConeRounds", "isContent", "(IIIII)Z"⟩ ⟨"ConeRounds", "isContent", "(IIIII)Z"⟩ : Cond) ∈ wU := wU_m 16 (by decide +kernel) (by decide +kernel)
theorem m_17 : (.selects "ConeRounds" ⟨"ConeRounds", "walkTold", "(LConeRounds$Van;I)Z"⟩ ⟨"ConeRounds", "walkTold", "(LConeRounds$Van;I)Z"⟩ : Cond) ∈ wU := wU_m 17 (by decide +kernel) (by decide +kernel)
theorem m_18 : (.selects "ConeRounds" ⟨"ConeRounds", "goesOn", "(LConeRounds$Van;II)Z"⟩ ⟨"ConeRounds", "goesOn", "(LConeRounds$Van;II)Z"⟩ : Cond) ∈ wU := wU_m 18 (by decide +kernel) (by decide +kernel)
theorem m_19 : (.selects "ConeRounds" ⟨"ConeRounds", "stockOfAll", "()I"⟩ ⟨"ConeRounds", "stockOfAll", "()I"⟩ : Cond) ∈ wU := wU_m 19 (by decide +kernel) (by decide +kernel)
theorem m_20 : (.selects "ConeRoundsModel" ⟨"ConeRoundsModel", "finds", "(I)I"⟩ ⟨"ConeRoundsModel", "finds", "(I)I"⟩ : Cond) ∈ wU := wU_m 20 (by decide +kernel) (by decide +kernel)
theorem m_21 : (.selects "ConeRoundsModel" ⟨"ConeRoundsModel", "isStreet", "(I)Z"⟩ ⟨"ConeRoundsModel", "isStreet", "(I)Z"⟩ : Cond) ∈ wU := wU_m 21 (by decide +kernel) (by decide +kernel)
theorem m_22 : (.selects "ConeRoundsModel" ⟨"ConeRoundsModel", "isVan", "(I)Z"⟩ ⟨"ConeRoundsModel", "isVan", "(I)Z"⟩ : Cond) ∈ wU := wU_m 22 (by decide +kernel) (by decide +kernel)
theorem m_23 : (.selects "ConeRoundsModel" ⟨"ConeRoundsModel", "mayStand", "(III)Z"⟩ ⟨"ConeRoundsModel", "mayStand", "(III)Z"⟩ : Cond) ∈ wU := wU_m 23 (by decide +kernel) (by decide +kernel)
theorem m_24 : (.selects "ConeRoundsModel" ⟨"ConeRoundsModel", "isLicensed", "(II)Z"⟩ ⟨"ConeRoundsModel", "isLicensed", "(II)Z"⟩ : Cond) ∈ wU := wU_m 24 (by decide +kernel) (by decide +kernel)
theorem m_25 : (.selects "ConeRoundsModel" ⟨"ConeRoundsModel", "isBarred", "(II)Z"⟩ ⟨"ConeRoundsModel", "isBarred", "(II)Z"⟩ : Cond) ∈ wU := wU_m 25 (by decide +kernel) (by decide +kernel)
theorem m_26 : (.selects "ConeRoundsModel" ⟨"ConeRoundsModel", "worthOf", "(II)I"⟩ ⟨"ConeRoundsModel", "worthOf", "(II)I"⟩ : Cond) ∈ wU := wU_m 26 (by decide +kernel) (by decide +kernel)
theorem m_27 : (.selects "ConeRoundsModel" ⟨"ConeRoundsModel", "whyNot", "(III)I"⟩ ⟨"ConeRoundsModel", "whyNot", "(III)I"⟩ : Cond) ∈ wU := wU_m 27 (by decide +kernel) (by decide +kernel)
theorem m_28 : (.selects "ConeRoundsModel" ⟨"ConeRoundsModel", "isAt", "(I)Z"⟩ ⟨"ConeRoundsModel", "isAt", "(I)Z"⟩ : Cond) ∈ wU := wU_m 28 (by decide +kernel) (by decide +kernel)
theorem m_29 : (.selects "ConeRoundsModel" ⟨"ConeRoundsModel", "findPlan", "(III)V"⟩ ⟨"ConeRoundsModel", "findPlan", "(III)V"⟩ : Cond) ∈ wU := wU_m 29 (by decide +kernel) (by decide +kernel)
theorem m_30 : (.selects "ConeRoundsModel" ⟨"ConeRoundsModel", "sells", "(II)V"⟩ ⟨"ConeRoundsModel", "sells", "(II)V"⟩ : Cond) ∈ wU := wU_m 30 (by decide +kernel) (by decide +kernel)
theorem m_31 : (.selects "ConeRoundsModel" ⟨"ConeRoundsModel", "note", "(I)V"⟩ ⟨"ConeRoundsModel", "note", "(I)V"⟩ : Cond) ∈ wU := wU_m 31 (by decide +kernel) (by decide +kernel)
theorem m_32 : (.selects "ConeRoundsModel" ⟨"ConeRoundsModel", "later", "(III)I"⟩ ⟨"ConeRoundsModel", "later", "(III)I"⟩ : Cond) ∈ wU := wU_m 32 (by decide +kernel) (by decide +kernel)
theorem m_33 : (.selects "ConeRoundsModel" ⟨"ConeRoundsModel", "ahead", "(II)I"⟩ ⟨"ConeRoundsModel", "ahead", "(II)I"⟩ : Cond) ∈ wU := wU_m 33 (by decide +kernel) (by decide +kernel)
theorem m_34 : (.selects "ConeRoundsModel" ⟨"ConeRoundsModel", "wrongOf", "(I)I"⟩ ⟨"ConeRoundsModel", "wrongOf", "(I)I"⟩ : Cond) ∈ wU := wU_m 34 (by decide +kernel) (by decide +kernel)
theorem m_35 : (.selects "ConeRoundsModel" ⟨"ConeRoundsModel", "holderOf", "(I)I"⟩ ⟨"ConeRoundsModel", "holderOf", "(I)I"⟩ : Cond) ∈ wU := wU_m 35 (by decide +kernel) (by decide +kernel)
theorem m_36 : (.selects "ConeRoundsModel" ⟨"ConeRoundsModel", "getsOf", "(IIIII)I"⟩ ⟨"ConeRoundsModel", "getsOf", "(IIIII)I"⟩ : Cond) ∈ wU := wU_m 36 (by decide +kernel) (by decide +kernel)
theorem m_37 : (.selects "ConeRoundsModel" ⟨"ConeRoundsModel", "areTwo", "(III)Z"⟩ ⟨"ConeRoundsModel", "areTwo", "(III)Z"⟩ : Cond) ∈ wU := wU_m 37 (by decide +kernel) (by decide +kernel)
theorem m_38 : (.selects "ConeRoundsModel" ⟨"ConeRoundsModel", "isBalance", "(IIIII)Z"⟩ ⟨"ConeRoundsModel", "isBalance", "(IIIII)Z"⟩ : Cond) ∈ wU := wU_m 38 (by decide +kernel) (by decide +kernel)
theorem m_39 : (.selects "ConeRoundsModel" ⟨"ConeRoundsModel", "isBill", "(I)Z"⟩ ⟨"ConeRoundsModel", "isBill", "(I)Z"⟩ : Cond) ∈ wU := wU_m 39 (by decide +kernel) (by decide +kernel)
theorem m_40 : (.selects "ConeRoundsModel" ⟨"ConeRoundsModel", "owedOf", "(II)I"⟩ ⟨"ConeRoundsModel", "owedOf", "(II)I"⟩ : Cond) ∈ wU := wU_m 40 (by decide +kernel) (by decide +kernel)
theorem m_41 : (.initialized "ConeRoundsLaw" : Cond) ∈ wU := wU_m 41 (by decide +kernel) (by decide +kernel)
theorem m_42 : (.initialized "ConeRounds" : Cond) ∈ wU := wU_m 42 (by decide +kernel) (by decide +kernel)
theorem m_43 : (.initialized "ConeRounds$Town" : Cond) ∈ wU := wU_m 43 (by decide +kernel) (by decide +kernel)
theorem m_44 : (.initialized "ConeRounds$Law" : Cond) ∈ wU := wU_m 44 (by decide +kernel) (by decide +kernel)
theorem m_45 : (.initialized "ConeRounds$Trail" : Cond) ∈ wU := wU_m 45 (by decide +kernel) (by decide +kernel)
theorem m_46 : (.initialized "ConeRounds$Stands" : Cond) ∈ wU := wU_m 46 (by decide +kernel) (by decide +kernel)
theorem m_47 : (.initialized "ConeRounds$Bills" : Cond) ∈ wU := wU_m 47 (by decide +kernel) (by decide +kernel)
theorem m_48 : (.initialized "ConeRoundsModel" : Cond) ∈ wU := wU_m 48 (by decide +kernel) (by decide +kernel)
theorem m_49 : (.initialized "ConeRounds$Van" : Cond) ∈ wU := wU_m 49 (by decide +kernel) (by decide +kernel)
theorem m_50 : (.initialized "ConeRounds$Bike" : Cond) ∈ wU := wU_m 50 (by decide +kernel) (by decide +kernel)
theorem m_51 : (.initialized "ConeRounds$Cart" : Cond) ∈ wU := wU_m 51 (by decide +kernel) (by decide +kernel)
theorem m_52 : (.initialized "java/lang/Math" : Cond) ∈ wU := wU_m 52 (by decide +kernel) (by decide +kernel)
theorem m_53 : (.classLink "ConeRoundsLaw" 7 "ConeRounds" : Cond) ∈ wU := wU_m 53 (by decide +kernel) (by decide +kernel)
theorem m_54 : (.instantiable "ConeRounds" 11 : Cond) ∈ wU := wU_m 54 (by decide +kernel) (by decide +kernel)
theorem m_55 : (.methodLink "ConeRoundsLaw" 9 ⟨"ConeRounds", "<init>", "()V"⟩ : Cond) ∈ wU := wU_m 55 (by decide +kernel) (by decide +kernel)
theorem m_56 : (.instanceMethod ⟨"ConeRounds", "<init>", "()V"⟩ : Cond) ∈ wU := wU_m 56 (by decide +kernel) (by decide +kernel)
theorem m_57 : (.code ⟨"ConeRounds", "<init>", "()V"⟩ prog_1_method_1_code 1 none : Cond) ∈ wU := wU_m 57 (by decide +kernel) (by decide +kernel)
theorem m_58 : (.methodLink "ConeRounds" 3 ⟨"java/lang/Object", "<init>", "()V"⟩ : Cond) ∈ wU := wU_m 58 (by decide +kernel) (by decide +kernel)
theorem m_59 : (.instanceMethod ⟨"java/lang/Object", "<init>", "()V"⟩ : Cond) ∈ wU := wU_m 59 (by decide +kernel) (by decide +kernel)
theorem m_60 : (.code ⟨"java/lang/Object", "<init>", "()V"⟩ object_method_1_code 1 none : Cond) ∈ wU := wU_m 60 (by decide +kernel) (by decide +kernel)
theorem m_61 : (.classLink "ConeRounds" 13 "ConeRounds$Town" : Cond) ∈ wU := wU_m 61 (by decide +kernel) (by decide +kernel)
theorem m_62 : (.instantiable "ConeRounds$Town" 5 : Cond) ∈ wU := wU_m 62 (by decide +kernel) (by decide +kernel)
theorem m_64 : (.instanceMethod ⟨"ConeRounds$Town", "<init>", "()V"⟩ : Cond) ∈ wU := wU_m 64 (by decide +kernel) (by decide +kernel)
theorem m_65 : (.code ⟨"ConeRounds$Town", "<init>", "()V"⟩ prog_7_method_1_code 1 none : Cond) ∈ wU := wU_m 65 (by decide +kernel) (by decide +kernel)
theorem m_66 : (.methodLink "ConeRounds$Town" 3 ⟨"java/lang/Object", "<init>", "()V"⟩ : Cond) ∈ wU := wU_m 66 (by decide +kernel) (by decide +kernel)
theorem m_67 : (.fieldLink "ConeRounds$Town" 9 "ConeRounds$Town" "schools" "[Z" : Cond) ∈ wU := wU_m 67 (by decide +kernel) (by decide +kernel)
theorem m_68 : (.fieldLink "ConeRounds" 243 "ConeRounds$Town" "schools" "[Z" : Cond) ∈ wU := wU_m 68 (by decide +kernel) (by decide +kernel)
theorem m_69 : (.fieldLink "ConeRounds$Town" 15 "ConeRounds$Town" "ways" "[I" : Cond) ∈ wU := wU_m 69 (by decide +kernel) (by decide +kernel)
theorem m_70 : (.fieldLink "ConeRounds$Town" 19 "ConeRounds$Town" "wishes" "[I" : Cond) ∈ wU := wU_m 70 (by decide +kernel) (by decide +kernel)
theorem m_71 : (.fieldLink "ConeRounds$Town" 22 "ConeRounds$Town" "size" "I" : Cond) ∈ wU := wU_m 71 (by decide +kernel) (by decide +kernel)
theorem m_72 : (.fieldLink "ConeRounds" 200 "ConeRounds$Town" "size" "I" : Cond) ∈ wU := wU_m 72 (by decide +kernel) (by decide +kernel)
theorem m_73 : (.fieldLink "ConeRounds$Town" 26 "ConeRounds$Town" "heat" "I" : Cond) ∈ wU := wU_m 73 (by decide +kernel) (by decide +kernel)
theorem m_74 : (.fieldLink "ConeRounds" 106 "ConeRounds$Town" "heat" "I" : Cond) ∈ wU := wU_m 74 (by decide +kernel) (by decide +kernel)
theorem m_75 : (.laysFinal "ConeRounds$Town" "ConeRounds$Town" "schools" "[Z" : Cond) ∈ wU := wU_m 75 (by decide +kernel) (by decide +kernel)
theorem m_77 : (.laysFinal "ConeRounds$Town" "ConeRounds$Town" "ways" "[I" : Cond) ∈ wU := wU_m 77 (by decide +kernel) (by decide +kernel)
theorem m_79 : (.laysFinal "ConeRounds$Town" "ConeRounds$Town" "wishes" "[I" : Cond) ∈ wU := wU_m 79 (by decide +kernel) (by decide +kernel)
theorem m_81 : (.lays "ConeRounds$Town" "ConeRounds$Town" "size" "I" : Cond) ∈ wU := wU_m 81 (by decide +kernel) (by decide +kernel)
theorem m_83 : (.lays "ConeRounds$Town" "ConeRounds$Town" "heat" "I" : Cond) ∈ wU := wU_m 83 (by decide +kernel) (by decide +kernel)
theorem m_86 : (.arrayClass .int : Cond) ∈ wU := wU_m 86 (by decide +kernel) (by decide +kernel)
theorem m_87 : (.arrayClass .boolean : Cond) ∈ wU := wU_m 87 (by decide +kernel) (by decide +kernel)
theorem m_88 : (.classLink "ConeRounds" 20 "ConeRounds$Law" : Cond) ∈ wU := wU_m 88 (by decide +kernel) (by decide +kernel)
theorem m_89 : (.instantiable "ConeRounds$Law" 3 : Cond) ∈ wU := wU_m 89 (by decide +kernel) (by decide +kernel)
theorem m_91 : (.instanceMethod ⟨"ConeRounds$Law", "<init>", "()V"⟩ : Cond) ∈ wU := wU_m 91 (by decide +kernel) (by decide +kernel)
theorem m_92 : (.code ⟨"ConeRounds$Law", "<init>", "()V"⟩ prog_5_method_1_code 1 none : Cond) ∈ wU := wU_m 92 (by decide +kernel) (by decide +kernel)
theorem m_93 : (.methodLink "ConeRounds$Law" 1 ⟨"java/lang/Object", "<init>", "()V"⟩ : Cond) ∈ wU := wU_m 93 (by decide +kernel) (by decide +kernel)
theorem m_94 : (.fieldLink "ConeRounds$Law" 7 "ConeRounds$Law" "from" "I" : Cond) ∈ wU := wU_m 94 (by decide +kernel) (by decide +kernel)
theorem m_95 : (.fieldLink "ConeRounds" 130 "ConeRounds$Law" "from" "I" : Cond) ∈ wU := wU_m 95 (by decide +kernel) (by decide +kernel)
theorem m_96 : (.fieldLink "ConeRounds$Law" 13 "ConeRounds$Law" "to" "I" : Cond) ∈ wU := wU_m 96 (by decide +kernel) (by decide +kernel)
theorem m_97 : (.fieldLink "ConeRounds" 133 "ConeRounds$Law" "to" "I" : Cond) ∈ wU := wU_m 97 (by decide +kernel) (by decide +kernel)
theorem m_98 : (.fieldLink "ConeRounds$Law" 16 "ConeRounds$Law" "seconds" "I" : Cond) ∈ wU := wU_m 98 (by decide +kernel) (by decide +kernel)
theorem m_99 : (.fieldLink "ConeRounds" 136 "ConeRounds$Law" "seconds" "I" : Cond) ∈ wU := wU_m 99 (by decide +kernel) (by decide +kernel)
theorem m_100 : (.lays "ConeRounds$Law" "ConeRounds$Law" "from" "I" : Cond) ∈ wU := wU_m 100 (by decide +kernel) (by decide +kernel)
theorem m_102 : (.lays "ConeRounds$Law" "ConeRounds$Law" "to" "I" : Cond) ∈ wU := wU_m 102 (by decide +kernel) (by decide +kernel)
theorem m_104 : (.lays "ConeRounds$Law" "ConeRounds$Law" "seconds" "I" : Cond) ∈ wU := wU_m 104 (by decide +kernel) (by decide +kernel)
theorem m_107 : (.classLink "ConeRounds" 27 "ConeRounds$Van" : Cond) ∈ wU := wU_m 107 (by decide +kernel) (by decide +kernel)
theorem m_109 : (.classLink "ConeRounds" 37 "ConeRounds$Trail" : Cond) ∈ wU := wU_m 109 (by decide +kernel) (by decide +kernel)
theorem m_110 : (.instantiable "ConeRounds$Trail" 5 : Cond) ∈ wU := wU_m 110 (by decide +kernel) (by decide +kernel)
theorem m_112 : (.instanceMethod ⟨"ConeRounds$Trail", "<init>", "()V"⟩ : Cond) ∈ wU := wU_m 112 (by decide +kernel) (by decide +kernel)
theorem m_113 : (.code ⟨"ConeRounds$Trail", "<init>", "()V"⟩ prog_8_method_1_code 1 none : Cond) ∈ wU := wU_m 113 (by decide +kernel) (by decide +kernel)
theorem m_114 : (.methodLink "ConeRounds$Trail" 3 ⟨"java/lang/Object", "<init>", "()V"⟩ : Cond) ∈ wU := wU_m 114 (by decide +kernel) (by decide +kernel)
theorem m_115 : (.fieldLink "ConeRounds$Trail" 9 "ConeRounds$Trail" "streets" "[I" : Cond) ∈ wU := wU_m 115 (by decide +kernel) (by decide +kernel)
theorem m_116 : (.fieldLink "ConeRounds" 155 "ConeRounds$Trail" "streets" "[I" : Cond) ∈ wU := wU_m 116 (by decide +kernel) (by decide +kernel)
theorem m_117 : (.fieldLink "ConeRounds$Trail" 15 "ConeRounds$Trail" "hours" "[I" : Cond) ∈ wU := wU_m 117 (by decide +kernel) (by decide +kernel)
theorem m_118 : (.fieldLink "ConeRounds" 158 "ConeRounds$Trail" "hours" "[I" : Cond) ∈ wU := wU_m 118 (by decide +kernel) (by decide +kernel)
theorem m_119 : (.fieldLink "ConeRounds$Trail" 18 "ConeRounds$Trail" "size" "I" : Cond) ∈ wU := wU_m 119 (by decide +kernel) (by decide +kernel)
theorem m_120 : (.fieldLink "ConeRounds" 270 "ConeRounds$Trail" "size" "I" : Cond) ∈ wU := wU_m 120 (by decide +kernel) (by decide +kernel)
theorem m_121 : (.fieldLink "ConeRounds$Trail" 22 "ConeRounds$Trail" "stock" "I" : Cond) ∈ wU := wU_m 121 (by decide +kernel) (by decide +kernel)
theorem m_122 : (.fieldLink "ConeRounds" 161 "ConeRounds$Trail" "stock" "I" : Cond) ∈ wU := wU_m 122 (by decide +kernel) (by decide +kernel)
theorem m_123 : (.fieldLink "ConeRounds$Trail" 25 "ConeRounds$Trail" "sold" "I" : Cond) ∈ wU := wU_m 123 (by decide +kernel) (by decide +kernel)
theorem m_124 : (.fieldLink "ConeRounds" 150 "ConeRounds$Trail" "sold" "I" : Cond) ∈ wU := wU_m 124 (by decide +kernel) (by decide +kernel)
theorem m_125 : (.laysFinal "ConeRounds$Trail" "ConeRounds$Trail" "streets" "[I" : Cond) ∈ wU := wU_m 125 (by decide +kernel) (by decide +kernel)
theorem m_127 : (.laysFinal "ConeRounds$Trail" "ConeRounds$Trail" "hours" "[I" : Cond) ∈ wU := wU_m 127 (by decide +kernel) (by decide +kernel)
theorem m_129 : (.lays "ConeRounds$Trail" "ConeRounds$Trail" "size" "I" : Cond) ∈ wU := wU_m 129 (by decide +kernel) (by decide +kernel)
theorem m_131 : (.lays "ConeRounds$Trail" "ConeRounds$Trail" "stock" "I" : Cond) ∈ wU := wU_m 131 (by decide +kernel) (by decide +kernel)
theorem m_133 : (.lays "ConeRounds$Trail" "ConeRounds$Trail" "sold" "I" : Cond) ∈ wU := wU_m 133 (by decide +kernel) (by decide +kernel)
theorem m_136 : (.classLink "ConeRounds" 47 "ConeRounds$Stands" : Cond) ∈ wU := wU_m 136 (by decide +kernel) (by decide +kernel)
theorem m_137 : (.instantiable "ConeRounds$Stands" 5 : Cond) ∈ wU := wU_m 137 (by decide +kernel) (by decide +kernel)
theorem m_139 : (.instanceMethod ⟨"ConeRounds$Stands", "<init>", "()V"⟩ : Cond) ∈ wU := wU_m 139 (by decide +kernel) (by decide +kernel)
theorem m_140 : (.code ⟨"ConeRounds$Stands", "<init>", "()V"⟩ prog_6_method_1_code 1 none : Cond) ∈ wU := wU_m 140 (by decide +kernel) (by decide +kernel)
theorem m_141 : (.methodLink "ConeRounds$Stands" 3 ⟨"java/lang/Object", "<init>", "()V"⟩ : Cond) ∈ wU := wU_m 141 (by decide +kernel) (by decide +kernel)
theorem m_142 : (.fieldLink "ConeRounds$Stands" 9 "ConeRounds$Stands" "vans" "[I" : Cond) ∈ wU := wU_m 142 (by decide +kernel) (by decide +kernel)
theorem m_143 : (.fieldLink "ConeRounds" 286 "ConeRounds$Stands" "vans" "[I" : Cond) ∈ wU := wU_m 143 (by decide +kernel) (by decide +kernel)
theorem m_144 : (.fieldLink "ConeRounds$Stands" 15 "ConeRounds$Stands" "streets" "[I" : Cond) ∈ wU := wU_m 144 (by decide +kernel) (by decide +kernel)
theorem m_145 : (.fieldLink "ConeRounds" 288 "ConeRounds$Stands" "streets" "[I" : Cond) ∈ wU := wU_m 145 (by decide +kernel) (by decide +kernel)
theorem m_146 : (.fieldLink "ConeRounds$Stands" 18 "ConeRounds$Stands" "hours" "[I" : Cond) ∈ wU := wU_m 146 (by decide +kernel) (by decide +kernel)
theorem m_147 : (.fieldLink "ConeRounds" 175 "ConeRounds$Stands" "hours" "[I" : Cond) ∈ wU := wU_m 147 (by decide +kernel) (by decide +kernel)
theorem m_148 : (.fieldLink "ConeRounds$Stands" 21 "ConeRounds$Stands" "chimes" "[I" : Cond) ∈ wU := wU_m 148 (by decide +kernel) (by decide +kernel)
theorem m_149 : (.fieldLink "ConeRounds" 289 "ConeRounds$Stands" "chimes" "[I" : Cond) ∈ wU := wU_m 149 (by decide +kernel) (by decide +kernel)
theorem m_150 : (.fieldLink "ConeRounds$Stands" 24 "ConeRounds$Stands" "size" "I" : Cond) ∈ wU := wU_m 150 (by decide +kernel) (by decide +kernel)
theorem m_151 : (.fieldLink "ConeRounds" 168 "ConeRounds$Stands" "size" "I" : Cond) ∈ wU := wU_m 151 (by decide +kernel) (by decide +kernel)
theorem m_152 : (.laysFinal "ConeRounds$Stands" "ConeRounds$Stands" "vans" "[I" : Cond) ∈ wU := wU_m 152 (by decide +kernel) (by decide +kernel)
theorem m_154 : (.laysFinal "ConeRounds$Stands" "ConeRounds$Stands" "streets" "[I" : Cond) ∈ wU := wU_m 154 (by decide +kernel) (by decide +kernel)
theorem m_156 : (.laysFinal "ConeRounds$Stands" "ConeRounds$Stands" "hours" "[I" : Cond) ∈ wU := wU_m 156 (by decide +kernel) (by decide +kernel)
theorem m_158 : (.laysFinal "ConeRounds$Stands" "ConeRounds$Stands" "chimes" "[I" : Cond) ∈ wU := wU_m 158 (by decide +kernel) (by decide +kernel)
theorem m_160 : (.lays "ConeRounds$Stands" "ConeRounds$Stands" "size" "I" : Cond) ∈ wU := wU_m 160 (by decide +kernel) (by decide +kernel)
theorem m_163 : (.classLink "ConeRounds" 54 "ConeRounds$Bills" : Cond) ∈ wU := wU_m 163 (by decide +kernel) (by decide +kernel)
theorem m_164 : (.instantiable "ConeRounds$Bills" 5 : Cond) ∈ wU := wU_m 164 (by decide +kernel) (by decide +kernel)
theorem m_166 : (.instanceMethod ⟨"ConeRounds$Bills", "<init>", "()V"⟩ : Cond) ∈ wU := wU_m 166 (by decide +kernel) (by decide +kernel)
theorem m_167 : (.code ⟨"ConeRounds$Bills", "<init>", "()V"⟩ prog_3_method_1_code 1 none : Cond) ∈ wU := wU_m 167 (by decide +kernel) (by decide +kernel)
theorem m_168 : (.methodLink "ConeRounds$Bills" 3 ⟨"java/lang/Object", "<init>", "()V"⟩ : Cond) ∈ wU := wU_m 168 (by decide +kernel) (by decide +kernel)
theorem m_169 : (.fieldLink "ConeRounds$Bills" 9 "ConeRounds$Bills" "coins" "[I" : Cond) ∈ wU := wU_m 169 (by decide +kernel) (by decide +kernel)
theorem m_170 : (.fieldLink "ConeRounds" 212 "ConeRounds$Bills" "coins" "[I" : Cond) ∈ wU := wU_m 170 (by decide +kernel) (by decide +kernel)
theorem m_171 : (.fieldLink "ConeRounds$Bills" 15 "ConeRounds$Bills" "days" "[I" : Cond) ∈ wU := wU_m 171 (by decide +kernel) (by decide +kernel)
theorem m_172 : (.fieldLink "ConeRounds$Bills" 18 "ConeRounds$Bills" "dues" "[I" : Cond) ∈ wU := wU_m 172 (by decide +kernel) (by decide +kernel)
theorem m_173 : (.fieldLink "ConeRounds$Bills" 21 "ConeRounds$Bills" "size" "I" : Cond) ∈ wU := wU_m 173 (by decide +kernel) (by decide +kernel)
theorem m_174 : (.fieldLink "ConeRounds" 224 "ConeRounds$Bills" "size" "I" : Cond) ∈ wU := wU_m 174 (by decide +kernel) (by decide +kernel)
theorem m_175 : (.fieldLink "ConeRounds$Bills" 25 "ConeRounds$Bills" "credit" "I" : Cond) ∈ wU := wU_m 175 (by decide +kernel) (by decide +kernel)
theorem m_176 : (.fieldLink "ConeRounds" 205 "ConeRounds$Bills" "credit" "I" : Cond) ∈ wU := wU_m 176 (by decide +kernel) (by decide +kernel)
theorem m_177 : (.laysFinal "ConeRounds$Bills" "ConeRounds$Bills" "coins" "[I" : Cond) ∈ wU := wU_m 177 (by decide +kernel) (by decide +kernel)
theorem m_179 : (.laysFinal "ConeRounds$Bills" "ConeRounds$Bills" "days" "[I" : Cond) ∈ wU := wU_m 179 (by decide +kernel) (by decide +kernel)
theorem m_181 : (.laysFinal "ConeRounds$Bills" "ConeRounds$Bills" "dues" "[I" : Cond) ∈ wU := wU_m 181 (by decide +kernel) (by decide +kernel)
theorem m_183 : (.lays "ConeRounds$Bills" "ConeRounds$Bills" "size" "I" : Cond) ∈ wU := wU_m 183 (by decide +kernel) (by decide +kernel)
theorem m_185 : (.lays "ConeRounds$Bills" "ConeRounds$Bills" "credit" "I" : Cond) ∈ wU := wU_m 185 (by decide +kernel) (by decide +kernel)
theorem m_188 : (.fieldLink "ConeRounds" 9 "ConeRounds" "findings" "[I" : Cond) ∈ wU := wU_m 188 (by decide +kernel) (by decide +kernel)
theorem m_189 : (.fieldLink "ConeRounds" 16 "ConeRounds" "town" "LConeRounds$Town;" : Cond) ∈ wU := wU_m 189 (by decide +kernel) (by decide +kernel)
theorem m_190 : (.fieldLink "ConeRounds" 23 "ConeRounds" "rules" "LConeRounds$Law;" : Cond) ∈ wU := wU_m 190 (by decide +kernel) (by decide +kernel)
theorem m_191 : (.fieldLink "ConeRounds" 29 "ConeRounds" "vans" "[LConeRounds$Van;" : Cond) ∈ wU := wU_m 191 (by decide +kernel) (by decide +kernel)
theorem m_192 : (.fieldLink "ConeRounds" 33 "ConeRounds" "vanCount" "I" : Cond) ∈ wU := wU_m 192 (by decide +kernel) (by decide +kernel)
theorem m_193 : (.fieldLink "ConeRounds" 40 "ConeRounds" "trail" "LConeRounds$Trail;" : Cond) ∈ wU := wU_m 193 (by decide +kernel) (by decide +kernel)
theorem m_194 : (.fieldLink "ConeRounds" 44 "ConeRounds" "best" "LConeRounds$Trail;" : Cond) ∈ wU := wU_m 194 (by decide +kernel) (by decide +kernel)
theorem m_195 : (.fieldLink "ConeRounds" 50 "ConeRounds" "stands" "LConeRounds$Stands;" : Cond) ∈ wU := wU_m 195 (by decide +kernel) (by decide +kernel)
theorem m_196 : (.fieldLink "ConeRounds" 57 "ConeRounds" "bills" "LConeRounds$Bills;" : Cond) ∈ wU := wU_m 196 (by decide +kernel) (by decide +kernel)
theorem m_197 : (.fieldLink "ConeRounds" 61 "ConeRounds" "waiting" "[I" : Cond) ∈ wU := wU_m 197 (by decide +kernel) (by decide +kernel)
theorem m_198 : (.fieldLink "ConeRounds" 64 "ConeRounds" "waitingCount" "I" : Cond) ∈ wU := wU_m 198 (by decide +kernel) (by decide +kernel)
theorem m_199 : (.laysFinal "ConeRounds" "ConeRounds" "findings" "[I" : Cond) ∈ wU := wU_m 199 (by decide +kernel) (by decide +kernel)
theorem m_201 : (.laysFinal "ConeRounds" "ConeRounds" "town" "LConeRounds$Town;" : Cond) ∈ wU := wU_m 201 (by decide +kernel) (by decide +kernel)
theorem m_203 : (.laysFinal "ConeRounds" "ConeRounds" "rules" "LConeRounds$Law;" : Cond) ∈ wU := wU_m 203 (by decide +kernel) (by decide +kernel)
theorem m_205 : (.laysFinal "ConeRounds" "ConeRounds" "vans" "[LConeRounds$Van;" : Cond) ∈ wU := wU_m 205 (by decide +kernel) (by decide +kernel)
theorem m_207 : (.lays "ConeRounds" "ConeRounds" "vanCount" "I" : Cond) ∈ wU := wU_m 207 (by decide +kernel) (by decide +kernel)
theorem m_209 : (.laysFinal "ConeRounds" "ConeRounds" "trail" "LConeRounds$Trail;" : Cond) ∈ wU := wU_m 209 (by decide +kernel) (by decide +kernel)
theorem m_211 : (.laysFinal "ConeRounds" "ConeRounds" "best" "LConeRounds$Trail;" : Cond) ∈ wU := wU_m 211 (by decide +kernel) (by decide +kernel)
theorem m_213 : (.laysFinal "ConeRounds" "ConeRounds" "stands" "LConeRounds$Stands;" : Cond) ∈ wU := wU_m 213 (by decide +kernel) (by decide +kernel)
theorem m_215 : (.laysFinal "ConeRounds" "ConeRounds" "bills" "LConeRounds$Bills;" : Cond) ∈ wU := wU_m 215 (by decide +kernel) (by decide +kernel)
theorem m_217 : (.laysFinal "ConeRounds" "ConeRounds" "waiting" "[I" : Cond) ∈ wU := wU_m 217 (by decide +kernel) (by decide +kernel)
theorem m_219 : (.lays "ConeRounds" "ConeRounds" "waitingCount" "I" : Cond) ∈ wU := wU_m 219 (by decide +kernel) (by decide +kernel)
theorem m_222 : (.methodLink "ConeRoundsLaw" 13 ⟨"ConeRounds", "street", "(I)I"⟩ : Cond) ∈ wU := wU_m 222 (by decide +kernel) (by decide +kernel)
theorem m_223 : (.instanceMethod ⟨"ConeRounds", "street", "(I)I"⟩ : Cond) ∈ wU := wU_m 223 (by decide +kernel) (by decide +kernel)
theorem m_224 : (.selects "ConeRounds" ⟨"ConeRounds", "street", "(I)I"⟩ ⟨"ConeRounds", "street", "(I)I"⟩ : Cond) ∈ wU := wU_m 224 (by decide +kernel) (by decide +kernel)
theorem m_225 : (.code ⟨"ConeRounds", "street", "(I)I"⟩ prog_1_method_2_code 2 (some .int) : Cond) ∈ wU := wU_m 225 (by decide +kernel) (by decide +kernel)
theorem m_226 : (.constant "ConeRounds" 67 (-1000001) : Cond) ∈ wU := wU_m 226 (by decide +kernel) (by decide +kernel)
theorem m_227 : (.methodLink "ConeRounds" 68 ⟨"ConeRounds", "finding", "(I)I"⟩ : Cond) ∈ wU := wU_m 227 (by decide +kernel) (by decide +kernel)
theorem m_229 : (.instanceMethod ⟨"ConeRounds", "finding", "(I)I"⟩ : Cond) ∈ wU := wU_m 229 (by decide +kernel) (by decide +kernel)
theorem m_230 : (.code ⟨"ConeRounds", "finding", "(I)I"⟩ prog_1_method_31_code 3 (some .int) : Cond) ∈ wU := wU_m 230 (by decide +kernel) (by decide +kernel)
theorem m_231 : (.constant "ConeRounds" 229 (-1000000) : Cond) ∈ wU := wU_m 231 (by decide +kernel) (by decide +kernel)
theorem m_232 : (.methodLink "ConeRounds" 72 ⟨"ConeRounds$Town", "isFull", "()Z"⟩ : Cond) ∈ wU := wU_m 232 (by decide +kernel) (by decide +kernel)
theorem m_233 : (.instanceMethod ⟨"ConeRounds$Town", "isFull", "()Z"⟩ : Cond) ∈ wU := wU_m 233 (by decide +kernel) (by decide +kernel)
theorem m_234 : (.selects "ConeRounds$Town" ⟨"ConeRounds$Town", "isFull", "()Z"⟩ ⟨"ConeRounds$Town", "isFull", "()Z"⟩ : Cond) ∈ wU := wU_m 234 (by decide +kernel) (by decide +kernel)
theorem m_235 : (.code ⟨"ConeRounds$Town", "isFull", "()Z"⟩ prog_7_method_3_code 1 (some .boolean) : Cond) ∈ wU := wU_m 235 (by decide +kernel) (by decide +kernel)
theorem m_236 : (.constant "ConeRounds" 76 (-1000004) : Cond) ∈ wU := wU_m 236 (by decide +kernel) (by decide +kernel)
theorem m_237 : (.methodLink "ConeRounds" 77 ⟨"ConeRounds$Town", "add", "(Z)I"⟩ : Cond) ∈ wU := wU_m 237 (by decide +kernel) (by decide +kernel)
theorem m_238 : (.instanceMethod ⟨"ConeRounds$Town", "add", "(Z)I"⟩ : Cond) ∈ wU := wU_m 238 (by decide +kernel) (by decide +kernel)
theorem m_239 : (.selects "ConeRounds$Town" ⟨"ConeRounds$Town", "add", "(Z)I"⟩ ⟨"ConeRounds$Town", "add", "(Z)I"⟩ : Cond) ∈ wU := wU_m 239 (by decide +kernel) (by decide +kernel)
theorem m_240 : (.code ⟨"ConeRounds$Town", "add", "(Z)I"⟩ prog_7_method_4_code 2 (some .int) : Cond) ∈ wU := wU_m 240 (by decide +kernel) (by decide +kernel)
theorem m_241 : (.methodLink "ConeRoundsLaw" 18 ⟨"ConeRounds", "way", "(III)I"⟩ : Cond) ∈ wU := wU_m 241 (by decide +kernel) (by decide +kernel)
theorem m_242 : (.instanceMethod ⟨"ConeRounds", "way", "(III)I"⟩ : Cond) ∈ wU := wU_m 242 (by decide +kernel) (by decide +kernel)
theorem m_243 : (.selects "ConeRounds" ⟨"ConeRounds", "way", "(III)I"⟩ ⟨"ConeRounds", "way", "(III)I"⟩ : Cond) ∈ wU := wU_m 243 (by decide +kernel) (by decide +kernel)
theorem m_244 : (.code ⟨"ConeRounds", "way", "(III)I"⟩ prog_1_method_3_code 5 (some .int) : Cond) ∈ wU := wU_m 244 (by decide +kernel) (by decide +kernel)
theorem m_245 : (.methodLink "ConeRounds" 81 ⟨"ConeRounds$Town", "has", "(I)Z"⟩ : Cond) ∈ wU := wU_m 245 (by decide +kernel) (by decide +kernel)
theorem m_246 : (.instanceMethod ⟨"ConeRounds$Town", "has", "(I)Z"⟩ : Cond) ∈ wU := wU_m 246 (by decide +kernel) (by decide +kernel)
theorem m_247 : (.selects "ConeRounds$Town" ⟨"ConeRounds$Town", "has", "(I)Z"⟩ ⟨"ConeRounds$Town", "has", "(I)Z"⟩ : Cond) ∈ wU := wU_m 247 (by decide +kernel) (by decide +kernel)
theorem m_248 : (.code ⟨"ConeRounds$Town", "has", "(I)Z"⟩ prog_7_method_2_code 2 (some .boolean) : Cond) ∈ wU := wU_m 248 (by decide +kernel) (by decide +kernel)
theorem m_249 : (.methodLink "ConeRounds" 85 ⟨"ConeRounds", "isWithin", "(II)Z"⟩ : Cond) ∈ wU := wU_m 249 (by decide +kernel) (by decide +kernel)
theorem m_250 : (.static ⟨"ConeRounds", "isWithin", "(II)Z"⟩ : Cond) ∈ wU := wU_m 250 (by decide +kernel) (by decide +kernel)
theorem m_251 : (.code ⟨"ConeRounds", "isWithin", "(II)Z"⟩ prog_1_method_32_code 2 (some .boolean) : Cond) ∈ wU := wU_m 251 (by decide +kernel) (by decide +kernel)
theorem m_252 : (.methodLink "ConeRounds" 89 ⟨"ConeRounds$Town", "wayBetween", "(II)I"⟩ : Cond) ∈ wU := wU_m 252 (by decide +kernel) (by decide +kernel)
theorem m_253 : (.instanceMethod ⟨"ConeRounds$Town", "wayBetween", "(II)I"⟩ : Cond) ∈ wU := wU_m 253 (by decide +kernel) (by decide +kernel)
theorem m_254 : (.selects "ConeRounds$Town" ⟨"ConeRounds$Town", "wayBetween", "(II)I"⟩ ⟨"ConeRounds$Town", "wayBetween", "(II)I"⟩ : Cond) ∈ wU := wU_m 254 (by decide +kernel) (by decide +kernel)
theorem m_255 : (.code ⟨"ConeRounds$Town", "wayBetween", "(II)I"⟩ prog_7_method_5_code 3 (some .int) : Cond) ∈ wU := wU_m 255 (by decide +kernel) (by decide +kernel)
theorem m_256 : (.methodLink "ConeRounds" 93 ⟨"ConeRounds$Town", "setWay", "(III)V"⟩ : Cond) ∈ wU := wU_m 256 (by decide +kernel) (by decide +kernel)
theorem m_257 : (.instanceMethod ⟨"ConeRounds$Town", "setWay", "(III)V"⟩ : Cond) ∈ wU := wU_m 257 (by decide +kernel) (by decide +kernel)
theorem m_258 : (.selects "ConeRounds$Town" ⟨"ConeRounds$Town", "setWay", "(III)V"⟩ ⟨"ConeRounds$Town", "setWay", "(III)V"⟩ : Cond) ∈ wU := wU_m 258 (by decide +kernel) (by decide +kernel)
theorem m_259 : (.code ⟨"ConeRounds$Town", "setWay", "(III)V"⟩ prog_7_method_6_code 4 none : Cond) ∈ wU := wU_m 259 (by decide +kernel) (by decide +kernel)
theorem m_260 : (.methodLink "ConeRoundsLaw" 23 ⟨"ConeRounds", "wish", "(III)I"⟩ : Cond) ∈ wU := wU_m 260 (by decide +kernel) (by decide +kernel)
theorem m_261 : (.instanceMethod ⟨"ConeRounds", "wish", "(III)I"⟩ : Cond) ∈ wU := wU_m 261 (by decide +kernel) (by decide +kernel)
theorem m_262 : (.selects "ConeRounds" ⟨"ConeRounds", "wish", "(III)I"⟩ ⟨"ConeRounds", "wish", "(III)I"⟩ : Cond) ∈ wU := wU_m 262 (by decide +kernel) (by decide +kernel)
theorem m_263 : (.code ⟨"ConeRounds", "wish", "(III)I"⟩ prog_1_method_4_code 5 (some .int) : Cond) ∈ wU := wU_m 263 (by decide +kernel) (by decide +kernel)
theorem m_264 : (.methodLink "ConeRounds" 97 ⟨"ConeRounds", "isHour", "(I)Z"⟩ : Cond) ∈ wU := wU_m 264 (by decide +kernel) (by decide +kernel)
theorem m_265 : (.static ⟨"ConeRounds", "isHour", "(I)Z"⟩ : Cond) ∈ wU := wU_m 265 (by decide +kernel) (by decide +kernel)
theorem m_266 : (.code ⟨"ConeRounds", "isHour", "(I)Z"⟩ prog_1_method_33_code 1 (some .boolean) : Cond) ∈ wU := wU_m 266 (by decide +kernel) (by decide +kernel)
theorem m_267 : (.methodLink "ConeRounds" 100 ⟨"ConeRounds$Town", "wishAt", "(II)I"⟩ : Cond) ∈ wU := wU_m 267 (by decide +kernel) (by decide +kernel)
theorem m_268 : (.instanceMethod ⟨"ConeRounds$Town", "wishAt", "(II)I"⟩ : Cond) ∈ wU := wU_m 268 (by decide +kernel) (by decide +kernel)
theorem m_269 : (.selects "ConeRounds$Town" ⟨"ConeRounds$Town", "wishAt", "(II)I"⟩ ⟨"ConeRounds$Town", "wishAt", "(II)I"⟩ : Cond) ∈ wU := wU_m 269 (by decide +kernel) (by decide +kernel)
theorem m_270 : (.code ⟨"ConeRounds$Town", "wishAt", "(II)I"⟩ prog_7_method_7_code 3 (some .int) : Cond) ∈ wU := wU_m 270 (by decide +kernel) (by decide +kernel)
theorem m_271 : (.methodLink "ConeRounds" 103 ⟨"ConeRounds$Town", "setWish", "(III)V"⟩ : Cond) ∈ wU := wU_m 271 (by decide +kernel) (by decide +kernel)
theorem m_272 : (.instanceMethod ⟨"ConeRounds$Town", "setWish", "(III)V"⟩ : Cond) ∈ wU := wU_m 272 (by decide +kernel) (by decide +kernel)
theorem m_273 : (.selects "ConeRounds$Town" ⟨"ConeRounds$Town", "setWish", "(III)V"⟩ ⟨"ConeRounds$Town", "setWish", "(III)V"⟩ : Cond) ∈ wU := wU_m 273 (by decide +kernel) (by decide +kernel)
theorem m_274 : (.code ⟨"ConeRounds$Town", "setWish", "(III)V"⟩ prog_7_method_8_code 4 none : Cond) ∈ wU := wU_m 274 (by decide +kernel) (by decide +kernel)
theorem m_275 : (.methodLink "ConeRoundsLaw" 27 ⟨"ConeRounds", "heat", "(I)I"⟩ : Cond) ∈ wU := wU_m 275 (by decide +kernel) (by decide +kernel)
theorem m_276 : (.instanceMethod ⟨"ConeRounds", "heat", "(I)I"⟩ : Cond) ∈ wU := wU_m 276 (by decide +kernel) (by decide +kernel)
theorem m_277 : (.selects "ConeRounds" ⟨"ConeRounds", "heat", "(I)I"⟩ ⟨"ConeRounds", "heat", "(I)I"⟩ : Cond) ∈ wU := wU_m 277 (by decide +kernel) (by decide +kernel)
theorem m_278 : (.code ⟨"ConeRounds", "heat", "(I)I"⟩ prog_1_method_5_code 3 (some .int) : Cond) ∈ wU := wU_m 278 (by decide +kernel) (by decide +kernel)
theorem m_279 : (.methodLink "ConeRoundsLaw" 31 ⟨"ConeRounds", "van", "(I)I"⟩ : Cond) ∈ wU := wU_m 279 (by decide +kernel) (by decide +kernel)
theorem m_280 : (.instanceMethod ⟨"ConeRounds", "van", "(I)I"⟩ : Cond) ∈ wU := wU_m 280 (by decide +kernel) (by decide +kernel)
theorem m_281 : (.selects "ConeRounds" ⟨"ConeRounds", "van", "(I)I"⟩ ⟨"ConeRounds", "van", "(I)I"⟩ : Cond) ∈ wU := wU_m 281 (by decide +kernel) (by decide +kernel)
theorem m_282 : (.code ⟨"ConeRounds", "van", "(I)I"⟩ prog_1_method_6_code 2 (some .int) : Cond) ∈ wU := wU_m 282 (by decide +kernel) (by decide +kernel)
theorem m_283 : (.methodLink "ConeRounds" 109 ⟨"ConeRounds", "isKind", "(I)Z"⟩ : Cond) ∈ wU := wU_m 283 (by decide +kernel) (by decide +kernel)
theorem m_284 : (.static ⟨"ConeRounds", "isKind", "(I)Z"⟩ : Cond) ∈ wU := wU_m 284 (by decide +kernel) (by decide +kernel)
theorem m_285 : (.code ⟨"ConeRounds", "isKind", "(I)Z"⟩ prog_1_method_38_code 1 (some .boolean) : Cond) ∈ wU := wU_m 285 (by decide +kernel) (by decide +kernel)
theorem m_286 : (.methodLink "ConeRounds" 112 ⟨"ConeRounds", "newVan", "(I)LConeRounds$Van;"⟩ : Cond) ∈ wU := wU_m 286 (by decide +kernel) (by decide +kernel)
theorem m_287 : (.static ⟨"ConeRounds", "newVan", "(I)LConeRounds$Van;"⟩ : Cond) ∈ wU := wU_m 287 (by decide +kernel) (by decide +kernel)
theorem m_288 : (.code ⟨"ConeRounds", "newVan", "(I)LConeRounds$Van;"⟩ prog_1_method_39_code 1 (some (.object "ConeRounds$Van")) : Cond) ∈ wU := wU_m 288 (by decide +kernel) (by decide +kernel)
theorem m_289 : (.classLink "ConeRounds" 230 "ConeRounds$Bike" : Cond) ∈ wU := wU_m 289 (by decide +kernel) (by decide +kernel)
theorem m_290 : (.instantiable "ConeRounds$Bike" 2 : Cond) ∈ wU := wU_m 290 (by decide +kernel) (by decide +kernel)
theorem m_292 : (.instanceMethod ⟨"ConeRounds$Bike", "<init>", "()V"⟩ : Cond) ∈ wU := wU_m 292 (by decide +kernel) (by decide +kernel)
theorem m_293 : (.code ⟨"ConeRounds$Bike", "<init>", "()V"⟩ prog_2_method_1_code 1 none : Cond) ∈ wU := wU_m 293 (by decide +kernel) (by decide +kernel)
theorem m_295 : (.instanceMethod ⟨"ConeRounds$Van", "<init>", "()V"⟩ : Cond) ∈ wU := wU_m 295 (by decide +kernel) (by decide +kernel)
theorem m_296 : (.code ⟨"ConeRounds$Van", "<init>", "()V"⟩ prog_9_method_1_code 1 none : Cond) ∈ wU := wU_m 296 (by decide +kernel) (by decide +kernel)
theorem m_297 : (.methodLink "ConeRounds$Van" 3 ⟨"java/lang/Object", "<init>", "()V"⟩ : Cond) ∈ wU := wU_m 297 (by decide +kernel) (by decide +kernel)
theorem m_298 : (.fieldLink "ConeRounds$Van" 9 "ConeRounds$Van" "stock" "I" : Cond) ∈ wU := wU_m 298 (by decide +kernel) (by decide +kernel)
theorem m_299 : (.fieldLink "ConeRounds" 124 "ConeRounds$Van" "stock" "I" : Cond) ∈ wU := wU_m 299 (by decide +kernel) (by decide +kernel)
theorem m_300 : (.fieldLink "ConeRounds$Van" 15 "ConeRounds$Van" "licence" "I" : Cond) ∈ wU := wU_m 300 (by decide +kernel) (by decide +kernel)
theorem m_301 : (.fieldLink "ConeRounds" 127 "ConeRounds$Van" "licence" "I" : Cond) ∈ wU := wU_m 301 (by decide +kernel) (by decide +kernel)
theorem m_302 : (.lays "ConeRounds$Bike" "ConeRounds$Van" "stock" "I" : Cond) ∈ wU := wU_m 302 (by decide +kernel) (by decide +kernel)
theorem m_304 : (.lays "ConeRounds$Bike" "ConeRounds$Van" "licence" "I" : Cond) ∈ wU := wU_m 304 (by decide +kernel) (by decide +kernel)
theorem m_307 : (.classLink "ConeRounds" 233 "ConeRounds$Cart" : Cond) ∈ wU := wU_m 307 (by decide +kernel) (by decide +kernel)
theorem m_308 : (.instantiable "ConeRounds$Cart" 2 : Cond) ∈ wU := wU_m 308 (by decide +kernel) (by decide +kernel)
theorem m_310 : (.instanceMethod ⟨"ConeRounds$Cart", "<init>", "()V"⟩ : Cond) ∈ wU := wU_m 310 (by decide +kernel) (by decide +kernel)
theorem m_311 : (.code ⟨"ConeRounds$Cart", "<init>", "()V"⟩ prog_4_method_1_code 1 none : Cond) ∈ wU := wU_m 311 (by decide +kernel) (by decide +kernel)
theorem m_313 : (.lays "ConeRounds$Cart" "ConeRounds$Van" "stock" "I" : Cond) ∈ wU := wU_m 313 (by decide +kernel) (by decide +kernel)
theorem m_314 : (.lays "ConeRounds$Cart" "ConeRounds$Van" "licence" "I" : Cond) ∈ wU := wU_m 314 (by decide +kernel) (by decide +kernel)
theorem m_316 : (.instantiable "ConeRounds$Van" 2 : Cond) ∈ wU := wU_m 316 (by decide +kernel) (by decide +kernel)
theorem m_318 : (.lays "ConeRounds$Van" "ConeRounds$Van" "stock" "I" : Cond) ∈ wU := wU_m 318 (by decide +kernel) (by decide +kernel)
theorem m_319 : (.lays "ConeRounds$Van" "ConeRounds$Van" "licence" "I" : Cond) ∈ wU := wU_m 319 (by decide +kernel) (by decide +kernel)
theorem m_321 : (.methodLink "ConeRoundsLaw" 35 ⟨"ConeRounds", "as", "(II)I"⟩ : Cond) ∈ wU := wU_m 321 (by decide +kernel) (by decide +kernel)
theorem m_322 : (.instanceMethod ⟨"ConeRounds", "as", "(II)I"⟩ : Cond) ∈ wU := wU_m 322 (by decide +kernel) (by decide +kernel)
theorem m_323 : (.selects "ConeRounds" ⟨"ConeRounds", "as", "(II)I"⟩ ⟨"ConeRounds", "as", "(II)I"⟩ : Cond) ∈ wU := wU_m 323 (by decide +kernel) (by decide +kernel)
theorem m_324 : (.code ⟨"ConeRounds", "as", "(II)I"⟩ prog_1_method_7_code 4 (some .int) : Cond) ∈ wU := wU_m 324 (by decide +kernel) (by decide +kernel)
theorem m_325 : (.methodLink "ConeRounds" 116 ⟨"ConeRounds", "vanNumber", "(I)LConeRounds$Van;"⟩ : Cond) ∈ wU := wU_m 325 (by decide +kernel) (by decide +kernel)
theorem m_327 : (.instanceMethod ⟨"ConeRounds", "vanNumber", "(I)LConeRounds$Van;"⟩ : Cond) ∈ wU := wU_m 327 (by decide +kernel) (by decide +kernel)
theorem m_328 : (.code ⟨"ConeRounds", "vanNumber", "(I)LConeRounds$Van;"⟩ prog_1_method_41_code 2 (some (.object "ConeRounds$Van")) : Cond) ∈ wU := wU_m 328 (by decide +kernel) (by decide +kernel)
theorem m_329 : (.methodLink "ConeRounds" 119 ⟨"ConeRounds", "isOfKind", "(LConeRounds$Van;I)Z"⟩ : Cond) ∈ wU := wU_m 329 (by decide +kernel) (by decide +kernel)
theorem m_330 : (.static ⟨"ConeRounds", "isOfKind", "(LConeRounds$Van;I)Z"⟩ : Cond) ∈ wU := wU_m 330 (by decide +kernel) (by decide +kernel)
theorem m_331 : (.code ⟨"ConeRounds", "isOfKind", "(LConeRounds$Van;I)Z"⟩ prog_1_method_40_code 2 (some .boolean) : Cond) ∈ wU := wU_m 331 (by decide +kernel) (by decide +kernel)
theorem m_332 : (.constant "ConeRounds" 123 (-1000005) : Cond) ∈ wU := wU_m 332 (by decide +kernel) (by decide +kernel)
theorem m_333 : (.methodLink "ConeRoundsLaw" 40 ⟨"ConeRounds", "stock", "(II)I"⟩ : Cond) ∈ wU := wU_m 333 (by decide +kernel) (by decide +kernel)
theorem m_334 : (.instanceMethod ⟨"ConeRounds", "stock", "(II)I"⟩ : Cond) ∈ wU := wU_m 334 (by decide +kernel) (by decide +kernel)
theorem m_335 : (.selects "ConeRounds" ⟨"ConeRounds", "stock", "(II)I"⟩ ⟨"ConeRounds", "stock", "(II)I"⟩ : Cond) ∈ wU := wU_m 335 (by decide +kernel) (by decide +kernel)
theorem m_336 : (.code ⟨"ConeRounds", "stock", "(II)I"⟩ prog_1_method_8_code 5 (some .int) : Cond) ∈ wU := wU_m 336 (by decide +kernel) (by decide +kernel)
theorem m_337 : (.methodLink "ConeRoundsLaw" 44 ⟨"ConeRounds", "licence", "(II)I"⟩ : Cond) ∈ wU := wU_m 337 (by decide +kernel) (by decide +kernel)
theorem m_338 : (.instanceMethod ⟨"ConeRounds", "licence", "(II)I"⟩ : Cond) ∈ wU := wU_m 338 (by decide +kernel) (by decide +kernel)
theorem m_339 : (.selects "ConeRounds" ⟨"ConeRounds", "licence", "(II)I"⟩ ⟨"ConeRounds", "licence", "(II)I"⟩ : Cond) ∈ wU := wU_m 339 (by decide +kernel) (by decide +kernel)
theorem m_340 : (.code ⟨"ConeRounds", "licence", "(II)I"⟩ prog_1_method_9_code 5 (some .int) : Cond) ∈ wU := wU_m 340 (by decide +kernel) (by decide +kernel)
theorem m_341 : (.methodLink "ConeRoundsLaw" 48 ⟨"ConeRounds", "law", "(III)I"⟩ : Cond) ∈ wU := wU_m 341 (by decide +kernel) (by decide +kernel)
theorem m_342 : (.instanceMethod ⟨"ConeRounds", "law", "(III)I"⟩ : Cond) ∈ wU := wU_m 342 (by decide +kernel) (by decide +kernel)
theorem m_343 : (.selects "ConeRounds" ⟨"ConeRounds", "law", "(III)I"⟩ ⟨"ConeRounds", "law", "(III)I"⟩ : Cond) ∈ wU := wU_m 343 (by decide +kernel) (by decide +kernel)
theorem m_344 : (.code ⟨"ConeRounds", "law", "(III)I"⟩ prog_1_method_10_code 4 (some .int) : Cond) ∈ wU := wU_m 344 (by decide +kernel) (by decide +kernel)
theorem m_345 : (.methodLink "ConeRoundsLaw" 52 ⟨"ConeRounds", "may", "(III)I"⟩ : Cond) ∈ wU := wU_m 345 (by decide +kernel) (by decide +kernel)
theorem m_346 : (.instanceMethod ⟨"ConeRounds", "may", "(III)I"⟩ : Cond) ∈ wU := wU_m 346 (by decide +kernel) (by decide +kernel)
theorem m_347 : (.selects "ConeRounds" ⟨"ConeRounds", "may", "(III)I"⟩ ⟨"ConeRounds", "may", "(III)I"⟩ : Cond) ∈ wU := wU_m 347 (by decide +kernel) (by decide +kernel)
theorem m_348 : (.code ⟨"ConeRounds", "may", "(III)I"⟩ prog_1_method_11_code 5 (some .int) : Cond) ∈ wU := wU_m 348 (by decide +kernel) (by decide +kernel)
theorem m_349 : (.methodLink "ConeRounds" 139 ⟨"ConeRounds", "mayStand", "(LConeRounds$Van;II)Z"⟩ : Cond) ∈ wU := wU_m 349 (by decide +kernel) (by decide +kernel)
theorem m_351 : (.instanceMethod ⟨"ConeRounds", "mayStand", "(LConeRounds$Van;II)Z"⟩ : Cond) ∈ wU := wU_m 351 (by decide +kernel) (by decide +kernel)
theorem m_352 : (.code ⟨"ConeRounds", "mayStand", "(LConeRounds$Van;II)Z"⟩ prog_1_method_44_code 4 (some .boolean) : Cond) ∈ wU := wU_m 352 (by decide +kernel) (by decide +kernel)
theorem m_353 : (.methodLink "ConeRounds" 237 ⟨"ConeRounds$Van", "isLicensed", "(I)Z"⟩ : Cond) ∈ wU := wU_m 353 (by decide +kernel) (by decide +kernel)
theorem m_354 : (.instanceMethod ⟨"ConeRounds$Van", "isLicensed", "(I)Z"⟩ : Cond) ∈ wU := wU_m 354 (by decide +kernel) (by decide +kernel)
theorem m_355 : (.selects "ConeRounds$Van" ⟨"ConeRounds$Van", "isLicensed", "(I)Z"⟩ ⟨"ConeRounds$Van", "isLicensed", "(I)Z"⟩ : Cond) ∈ wU := wU_m 355 (by decide +kernel) (by decide +kernel)
theorem m_356 : (.sameMethod "ConeRounds$Van" "ConeRounds$Van" "isLicensed" "(I)Z" : Cond) ∈ wU := wU_m 356 (by decide +kernel) (by decide +kernel)
theorem m_357 : (.selects "ConeRounds$Bike" ⟨"ConeRounds$Van", "isLicensed", "(I)Z"⟩ ⟨"ConeRounds$Van", "isLicensed", "(I)Z"⟩ : Cond) ∈ wU := wU_m 357 (by decide +kernel) (by decide +kernel)
theorem m_358 : (.selects "ConeRounds$Cart" ⟨"ConeRounds$Van", "isLicensed", "(I)Z"⟩ ⟨"ConeRounds$Van", "isLicensed", "(I)Z"⟩ : Cond) ∈ wU := wU_m 358 (by decide +kernel) (by decide +kernel)
theorem m_359 : (.code ⟨"ConeRounds$Van", "isLicensed", "(I)Z"⟩ prog_9_method_2_code 2 (some .boolean) : Cond) ∈ wU := wU_m 359 (by decide +kernel) (by decide +kernel)
theorem m_360 : (.methodLink "ConeRounds" 240 ⟨"ConeRounds", "isBarred", "(II)Z"⟩ : Cond) ∈ wU := wU_m 360 (by decide +kernel) (by decide +kernel)
theorem m_362 : (.instanceMethod ⟨"ConeRounds", "isBarred", "(II)Z"⟩ : Cond) ∈ wU := wU_m 362 (by decide +kernel) (by decide +kernel)
theorem m_363 : (.code ⟨"ConeRounds", "isBarred", "(II)Z"⟩ prog_1_method_45_code 3 (some .boolean) : Cond) ∈ wU := wU_m 363 (by decide +kernel) (by decide +kernel)
theorem m_364 : (.methodLink "ConeRounds" 247 ⟨"ConeRounds$Law", "barsSchoolsAt", "(I)Z"⟩ : Cond) ∈ wU := wU_m 364 (by decide +kernel) (by decide +kernel)
theorem m_365 : (.instanceMethod ⟨"ConeRounds$Law", "barsSchoolsAt", "(I)Z"⟩ : Cond) ∈ wU := wU_m 365 (by decide +kernel) (by decide +kernel)
theorem m_366 : (.selects "ConeRounds$Law" ⟨"ConeRounds$Law", "barsSchoolsAt", "(I)Z"⟩ ⟨"ConeRounds$Law", "barsSchoolsAt", "(I)Z"⟩ : Cond) ∈ wU := wU_m 366 (by decide +kernel) (by decide +kernel)
theorem m_367 : (.code ⟨"ConeRounds$Law", "barsSchoolsAt", "(I)Z"⟩ prog_5_method_2_code 2 (some .boolean) : Cond) ∈ wU := wU_m 367 (by decide +kernel) (by decide +kernel)
theorem m_368 : (.methodLink "ConeRoundsLaw" 56 ⟨"ConeRounds", "worth", "(II)I"⟩ : Cond) ∈ wU := wU_m 368 (by decide +kernel) (by decide +kernel)
theorem m_369 : (.instanceMethod ⟨"ConeRounds", "worth", "(II)I"⟩ : Cond) ∈ wU := wU_m 369 (by decide +kernel) (by decide +kernel)
theorem m_370 : (.selects "ConeRounds" ⟨"ConeRounds", "worth", "(II)I"⟩ ⟨"ConeRounds", "worth", "(II)I"⟩ : Cond) ∈ wU := wU_m 370 (by decide +kernel) (by decide +kernel)
theorem m_371 : (.code ⟨"ConeRounds", "worth", "(II)I"⟩ prog_1_method_12_code 3 (some .int) : Cond) ∈ wU := wU_m 371 (by decide +kernel) (by decide +kernel)
theorem m_372 : (.methodLink "ConeRounds" 143 ⟨"ConeRounds$Town", "worthAt", "(II)I"⟩ : Cond) ∈ wU := wU_m 372 (by decide +kernel) (by decide +kernel)
theorem m_373 : (.instanceMethod ⟨"ConeRounds$Town", "worthAt", "(II)I"⟩ : Cond) ∈ wU := wU_m 373 (by decide +kernel) (by decide +kernel)
theorem m_374 : (.selects "ConeRounds$Town" ⟨"ConeRounds$Town", "worthAt", "(II)I"⟩ ⟨"ConeRounds$Town", "worthAt", "(II)I"⟩ : Cond) ∈ wU := wU_m 374 (by decide +kernel) (by decide +kernel)
theorem m_375 : (.code ⟨"ConeRounds$Town", "worthAt", "(II)I"⟩ prog_7_method_9_code 3 (some .int) : Cond) ∈ wU := wU_m 375 (by decide +kernel) (by decide +kernel)
theorem m_376 : (.methodLink "ConeRounds$Town" 29 ⟨"ConeRounds$Town", "wishAt", "(II)I"⟩ : Cond) ∈ wU := wU_m 376 (by decide +kernel) (by decide +kernel)
theorem m_377 : (.methodLink "ConeRoundsLaw" 60 ⟨"ConeRounds", "plan", "(III)I"⟩ : Cond) ∈ wU := wU_m 377 (by decide +kernel) (by decide +kernel)
theorem m_378 : (.instanceMethod ⟨"ConeRounds", "plan", "(III)I"⟩ : Cond) ∈ wU := wU_m 378 (by decide +kernel) (by decide +kernel)
theorem m_379 : (.selects "ConeRounds" ⟨"ConeRounds", "plan", "(III)I"⟩ ⟨"ConeRounds", "plan", "(III)I"⟩ : Cond) ∈ wU := wU_m 379 (by decide +kernel) (by decide +kernel)
theorem m_380 : (.code ⟨"ConeRounds", "plan", "(III)I"⟩ prog_1_method_13_code 5 (some .int) : Cond) ∈ wU := wU_m 380 (by decide +kernel) (by decide +kernel)
theorem m_381 : (.methodLink "ConeRounds" 146 ⟨"ConeRounds", "makePlan", "(III)I"⟩ : Cond) ∈ wU := wU_m 381 (by decide +kernel) (by decide +kernel)
theorem m_383 : (.instanceMethod ⟨"ConeRounds", "makePlan", "(III)I"⟩ : Cond) ∈ wU := wU_m 383 (by decide +kernel) (by decide +kernel)
theorem m_384 : (.code ⟨"ConeRounds", "makePlan", "(III)I"⟩ prog_1_method_47_code 7 (some .int) : Cond) ∈ wU := wU_m 384 (by decide +kernel) (by decide +kernel)
theorem m_385 : (.methodLink "ConeRounds" 162 ⟨"ConeRounds", "isPlace", "(I)Z"⟩ : Cond) ∈ wU := wU_m 385 (by decide +kernel) (by decide +kernel)
theorem m_387 : (.instanceMethod ⟨"ConeRounds", "isPlace", "(I)Z"⟩ : Cond) ∈ wU := wU_m 387 (by decide +kernel) (by decide +kernel)
theorem m_388 : (.code ⟨"ConeRounds", "isPlace", "(I)Z"⟩ prog_1_method_34_code 2 (some .boolean) : Cond) ∈ wU := wU_m 388 (by decide +kernel) (by decide +kernel)
theorem m_389 : (.methodLink "ConeRounds" 178 ⟨"ConeRounds", "streetOf", "(I)I"⟩ : Cond) ∈ wU := wU_m 389 (by decide +kernel) (by decide +kernel)
theorem m_390 : (.static ⟨"ConeRounds", "streetOf", "(I)I"⟩ : Cond) ∈ wU := wU_m 390 (by decide +kernel) (by decide +kernel)
theorem m_391 : (.code ⟨"ConeRounds", "streetOf", "(I)I"⟩ prog_1_method_35_code 1 (some .int) : Cond) ∈ wU := wU_m 391 (by decide +kernel) (by decide +kernel)
theorem m_392 : (.methodLink "ConeRounds" 165 ⟨"ConeRounds", "hourOf", "(I)I"⟩ : Cond) ∈ wU := wU_m 392 (by decide +kernel) (by decide +kernel)
theorem m_393 : (.static ⟨"ConeRounds", "hourOf", "(I)I"⟩ : Cond) ∈ wU := wU_m 393 (by decide +kernel) (by decide +kernel)
theorem m_394 : (.code ⟨"ConeRounds", "hourOf", "(I)I"⟩ prog_1_method_36_code 1 (some .int) : Cond) ∈ wU := wU_m 394 (by decide +kernel) (by decide +kernel)
theorem m_395 : (.constant "ConeRounds" 176 (-1000003) : Cond) ∈ wU := wU_m 395 (by decide +kernel) (by decide +kernel)
theorem m_396 : (.methodLink "ConeRounds" 253 ⟨"ConeRounds$Trail", "begin", "(I)V"⟩ : Cond) ∈ wU := wU_m 396 (by decide +kernel) (by decide +kernel)
theorem m_397 : (.instanceMethod ⟨"ConeRounds$Trail", "begin", "(I)V"⟩ : Cond) ∈ wU := wU_m 397 (by decide +kernel) (by decide +kernel)
theorem m_398 : (.selects "ConeRounds$Trail" ⟨"ConeRounds$Trail", "begin", "(I)V"⟩ ⟨"ConeRounds$Trail", "begin", "(I)V"⟩ : Cond) ∈ wU := wU_m 398 (by decide +kernel) (by decide +kernel)
theorem m_399 : (.code ⟨"ConeRounds$Trail", "begin", "(I)V"⟩ prog_8_method_2_code 2 none : Cond) ∈ wU := wU_m 399 (by decide +kernel) (by decide +kernel)
theorem m_400 : (.methodLink "ConeRounds" 257 ⟨"java/lang/Math", "min", "(II)I"⟩ : Cond) ∈ wU := wU_m 400 (by decide +kernel) (by decide +kernel)
theorem m_401 : (.static ⟨"java/lang/Math", "min", "(II)I"⟩ : Cond) ∈ wU := wU_m 401 (by decide +kernel) (by decide +kernel)
theorem m_402 : (.code ⟨"java/lang/Math", "min", "(II)I"⟩ prog_12_method_69_code 2 (some .int) : Cond) ∈ wU := wU_m 402 (by decide +kernel) (by decide +kernel)
theorem m_403 : (.methodLink "ConeRounds" 262 ⟨"ConeRounds", "explore", "(LConeRounds$Van;III)V"⟩ : Cond) ∈ wU := wU_m 403 (by decide +kernel) (by decide +kernel)
theorem m_405 : (.instanceMethod ⟨"ConeRounds", "explore", "(LConeRounds$Van;III)V"⟩ : Cond) ∈ wU := wU_m 405 (by decide +kernel) (by decide +kernel)
theorem m_406 : (.code ⟨"ConeRounds", "explore", "(LConeRounds$Van;III)V"⟩ prog_1_method_48_code 9 none : Cond) ∈ wU := wU_m 406 (by decide +kernel) (by decide +kernel)
theorem m_407 : (.methodLink "ConeRounds" 266 ⟨"ConeRounds$Trail", "isFull", "()Z"⟩ : Cond) ∈ wU := wU_m 407 (by decide +kernel) (by decide +kernel)
theorem m_408 : (.instanceMethod ⟨"ConeRounds$Trail", "isFull", "()Z"⟩ : Cond) ∈ wU := wU_m 408 (by decide +kernel) (by decide +kernel)
theorem m_409 : (.selects "ConeRounds$Trail" ⟨"ConeRounds$Trail", "isFull", "()Z"⟩ ⟨"ConeRounds$Trail", "isFull", "()Z"⟩ : Cond) ∈ wU := wU_m 409 (by decide +kernel) (by decide +kernel)
theorem m_410 : (.code ⟨"ConeRounds$Trail", "isFull", "()Z"⟩ prog_8_method_4_code 1 (some .boolean) : Cond) ∈ wU := wU_m 410 (by decide +kernel) (by decide +kernel)
theorem m_411 : (.methodLink "ConeRounds" 267 ⟨"ConeRounds$Trail", "standIn", "(LConeRounds$Van;III)V"⟩ : Cond) ∈ wU := wU_m 411 (by decide +kernel) (by decide +kernel)
theorem m_412 : (.instanceMethod ⟨"ConeRounds$Trail", "standIn", "(LConeRounds$Van;III)V"⟩ : Cond) ∈ wU := wU_m 412 (by decide +kernel) (by decide +kernel)
theorem m_413 : (.selects "ConeRounds$Trail" ⟨"ConeRounds$Trail", "standIn", "(LConeRounds$Van;III)V"⟩ ⟨"ConeRounds$Trail", "standIn", "(LConeRounds$Van;III)V"⟩ : Cond) ∈ wU := wU_m 413 (by decide +kernel) (by decide +kernel)
theorem m_414 : (.code ⟨"ConeRounds$Trail", "standIn", "(LConeRounds$Van;III)V"⟩ prog_8_method_5_code 7 none : Cond) ∈ wU := wU_m 414 (by decide +kernel) (by decide +kernel)
theorem m_415 : (.methodLink "ConeRounds$Trail" 28 ⟨"ConeRounds$Trail", "wasLatelyIn", "(II)Z"⟩ : Cond) ∈ wU := wU_m 415 (by decide +kernel) (by decide +kernel)
theorem m_417 : (.instanceMethod ⟨"ConeRounds$Trail", "wasLatelyIn", "(II)Z"⟩ : Cond) ∈ wU := wU_m 417 (by decide +kernel) (by decide +kernel)
theorem m_418 : (.code ⟨"ConeRounds$Trail", "wasLatelyIn", "(II)Z"⟩ prog_8_method_8_code 4 (some .boolean) : Cond) ∈ wU := wU_m 418 (by decide +kernel) (by decide +kernel)
theorem m_419 : (.methodLink "ConeRounds$Trail" 32 ⟨"ConeRounds$Van", "mostSoldOf", "(I)I"⟩ : Cond) ∈ wU := wU_m 419 (by decide +kernel) (by decide +kernel)
theorem m_420 : (.instanceMethod ⟨"ConeRounds$Van", "mostSoldOf", "(I)I"⟩ : Cond) ∈ wU := wU_m 420 (by decide +kernel) (by decide +kernel)
theorem m_421 : (.selects "ConeRounds$Van" ⟨"ConeRounds$Van", "mostSoldOf", "(I)I"⟩ ⟨"ConeRounds$Van", "mostSoldOf", "(I)I"⟩ : Cond) ∈ wU := wU_m 421 (by decide +kernel) (by decide +kernel)
theorem m_422 : (.sameMethod "ConeRounds$Van" "ConeRounds$Van" "mostSoldOf" "(I)I" : Cond) ∈ wU := wU_m 422 (by decide +kernel) (by decide +kernel)
theorem m_423 : (.selects "ConeRounds$Bike" ⟨"ConeRounds$Van", "mostSoldOf", "(I)I"⟩ ⟨"ConeRounds$Bike", "mostSoldOf", "(I)I"⟩ : Cond) ∈ wU := wU_m 423 (by decide +kernel) (by decide +kernel)
theorem m_424 : (.instanceMethod ⟨"ConeRounds$Bike", "mostSoldOf", "(I)I"⟩ : Cond) ∈ wU := wU_m 424 (by decide +kernel) (by decide +kernel)
theorem m_425 : (.code ⟨"ConeRounds$Bike", "mostSoldOf", "(I)I"⟩ prog_2_method_2_code 2 (some .int) : Cond) ∈ wU := wU_m 425 (by decide +kernel) (by decide +kernel)
theorem m_426 : (.methodLink "ConeRounds$Bike" 7 ⟨"java/lang/Math", "min", "(II)I"⟩ : Cond) ∈ wU := wU_m 426 (by decide +kernel) (by decide +kernel)
theorem m_427 : (.selects "ConeRounds$Cart" ⟨"ConeRounds$Van", "mostSoldOf", "(I)I"⟩ ⟨"ConeRounds$Van", "mostSoldOf", "(I)I"⟩ : Cond) ∈ wU := wU_m 427 (by decide +kernel) (by decide +kernel)
theorem m_428 : (.code ⟨"ConeRounds$Van", "mostSoldOf", "(I)I"⟩ prog_9_method_3_code 2 (some .int) : Cond) ∈ wU := wU_m 428 (by decide +kernel) (by decide +kernel)
theorem m_429 : (.methodLink "ConeRounds$Trail" 38 ⟨"java/lang/Math", "min", "(II)I"⟩ : Cond) ∈ wU := wU_m 429 (by decide +kernel) (by decide +kernel)
theorem m_430 : (.methodLink "ConeRounds$Trail" 44 ⟨"ConeRounds$Van", "meltingOf", "(I)I"⟩ : Cond) ∈ wU := wU_m 430 (by decide +kernel) (by decide +kernel)
theorem m_431 : (.instanceMethod ⟨"ConeRounds$Van", "meltingOf", "(I)I"⟩ : Cond) ∈ wU := wU_m 431 (by decide +kernel) (by decide +kernel)
theorem m_432 : (.selects "ConeRounds$Van" ⟨"ConeRounds$Van", "meltingOf", "(I)I"⟩ ⟨"ConeRounds$Van", "meltingOf", "(I)I"⟩ : Cond) ∈ wU := wU_m 432 (by decide +kernel) (by decide +kernel)
theorem m_433 : (.sameMethod "ConeRounds$Van" "ConeRounds$Van" "meltingOf" "(I)I" : Cond) ∈ wU := wU_m 433 (by decide +kernel) (by decide +kernel)
theorem m_434 : (.selects "ConeRounds$Bike" ⟨"ConeRounds$Van", "meltingOf", "(I)I"⟩ ⟨"ConeRounds$Bike", "meltingOf", "(I)I"⟩ : Cond) ∈ wU := wU_m 434 (by decide +kernel) (by decide +kernel)
theorem m_435 : (.instanceMethod ⟨"ConeRounds$Bike", "meltingOf", "(I)I"⟩ : Cond) ∈ wU := wU_m 435 (by decide +kernel) (by decide +kernel)
theorem m_436 : (.code ⟨"ConeRounds$Bike", "meltingOf", "(I)I"⟩ prog_2_method_3_code 2 (some .int) : Cond) ∈ wU := wU_m 436 (by decide +kernel) (by decide +kernel)
theorem m_437 : (.selects "ConeRounds$Cart" ⟨"ConeRounds$Van", "meltingOf", "(I)I"⟩ ⟨"ConeRounds$Cart", "meltingOf", "(I)I"⟩ : Cond) ∈ wU := wU_m 437 (by decide +kernel) (by decide +kernel)
theorem m_438 : (.instanceMethod ⟨"ConeRounds$Cart", "meltingOf", "(I)I"⟩ : Cond) ∈ wU := wU_m 438 (by decide +kernel) (by decide +kernel)
theorem m_439 : (.code ⟨"ConeRounds$Cart", "meltingOf", "(I)I"⟩ prog_4_method_2_code 2 (some .int) : Cond) ∈ wU := wU_m 439 (by decide +kernel) (by decide +kernel)
theorem m_440 : (.code ⟨"ConeRounds$Van", "meltingOf", "(I)I"⟩ prog_9_method_4_code 2 (some .int) : Cond) ∈ wU := wU_m 440 (by decide +kernel) (by decide +kernel)
theorem m_441 : (.methodLink "ConeRounds" 271 ⟨"ConeRounds$Trail", "copyFrom", "(LConeRounds$Trail;)V"⟩ : Cond) ∈ wU := wU_m 441 (by decide +kernel) (by decide +kernel)
theorem m_442 : (.instanceMethod ⟨"ConeRounds$Trail", "copyFrom", "(LConeRounds$Trail;)V"⟩ : Cond) ∈ wU := wU_m 442 (by decide +kernel) (by decide +kernel)
theorem m_443 : (.selects "ConeRounds$Trail" ⟨"ConeRounds$Trail", "copyFrom", "(LConeRounds$Trail;)V"⟩ ⟨"ConeRounds$Trail", "copyFrom", "(LConeRounds$Trail;)V"⟩ : Cond) ∈ wU := wU_m 443 (by decide +kernel) (by decide +kernel)
theorem m_444 : (.code ⟨"ConeRounds$Trail", "copyFrom", "(LConeRounds$Trail;)V"⟩ prog_8_method_7_code 3 none : Cond) ∈ wU := wU_m 444 (by decide +kernel) (by decide +kernel)
theorem m_445 : (.methodLink "ConeRounds" 275 ⟨"ConeRounds", "hoursBetween", "(LConeRounds$Van;II)I"⟩ : Cond) ∈ wU := wU_m 445 (by decide +kernel) (by decide +kernel)
theorem m_447 : (.instanceMethod ⟨"ConeRounds", "hoursBetween", "(LConeRounds$Van;II)I"⟩ : Cond) ∈ wU := wU_m 447 (by decide +kernel) (by decide +kernel)
theorem m_448 : (.code ⟨"ConeRounds", "hoursBetween", "(LConeRounds$Van;II)I"⟩ prog_1_method_46_code 4 (some .int) : Cond) ∈ wU := wU_m 448 (by decide +kernel) (by decide +kernel)
theorem m_449 : (.methodLink "ConeRounds" 250 ⟨"ConeRounds$Van", "hoursAcross", "(I)I"⟩ : Cond) ∈ wU := wU_m 449 (by decide +kernel) (by decide +kernel)
theorem m_450 : (.instanceMethod ⟨"ConeRounds$Van", "hoursAcross", "(I)I"⟩ : Cond) ∈ wU := wU_m 450 (by decide +kernel) (by decide +kernel)
theorem m_451 : (.selects "ConeRounds$Van" ⟨"ConeRounds$Van", "hoursAcross", "(I)I"⟩ ⟨"ConeRounds$Van", "hoursAcross", "(I)I"⟩ : Cond) ∈ wU := wU_m 451 (by decide +kernel) (by decide +kernel)
theorem m_452 : (.sameMethod "ConeRounds$Van" "ConeRounds$Van" "hoursAcross" "(I)I" : Cond) ∈ wU := wU_m 452 (by decide +kernel) (by decide +kernel)
theorem m_453 : (.selects "ConeRounds$Bike" ⟨"ConeRounds$Van", "hoursAcross", "(I)I"⟩ ⟨"ConeRounds$Van", "hoursAcross", "(I)I"⟩ : Cond) ∈ wU := wU_m 453 (by decide +kernel) (by decide +kernel)
theorem m_454 : (.selects "ConeRounds$Cart" ⟨"ConeRounds$Van", "hoursAcross", "(I)I"⟩ ⟨"ConeRounds$Cart", "hoursAcross", "(I)I"⟩ : Cond) ∈ wU := wU_m 454 (by decide +kernel) (by decide +kernel)
theorem m_455 : (.instanceMethod ⟨"ConeRounds$Cart", "hoursAcross", "(I)I"⟩ : Cond) ∈ wU := wU_m 455 (by decide +kernel) (by decide +kernel)
theorem m_456 : (.code ⟨"ConeRounds$Cart", "hoursAcross", "(I)I"⟩ prog_4_method_3_code 2 (some .int) : Cond) ∈ wU := wU_m 456 (by decide +kernel) (by decide +kernel)
theorem m_457 : (.code ⟨"ConeRounds$Van", "hoursAcross", "(I)I"⟩ prog_9_method_5_code 2 (some .int) : Cond) ∈ wU := wU_m 457 (by decide +kernel) (by decide +kernel)
theorem m_458 : (.methodLink "ConeRounds" 279 ⟨"ConeRounds$Trail", "stepBack", "(II)V"⟩ : Cond) ∈ wU := wU_m 458 (by decide +kernel) (by decide +kernel)
theorem m_459 : (.instanceMethod ⟨"ConeRounds$Trail", "stepBack", "(II)V"⟩ : Cond) ∈ wU := wU_m 459 (by decide +kernel) (by decide +kernel)
theorem m_460 : (.selects "ConeRounds$Trail" ⟨"ConeRounds$Trail", "stepBack", "(II)V"⟩ ⟨"ConeRounds$Trail", "stepBack", "(II)V"⟩ : Cond) ∈ wU := wU_m 460 (by decide +kernel) (by decide +kernel)
theorem m_461 : (.code ⟨"ConeRounds$Trail", "stepBack", "(II)V"⟩ prog_8_method_6_code 3 none : Cond) ∈ wU := wU_m 461 (by decide +kernel) (by decide +kernel)
theorem m_462 : (.methodLink "ConeRoundsLaw" 64 ⟨"ConeRounds", "stop", "(IIII)I"⟩ : Cond) ∈ wU := wU_m 462 (by decide +kernel) (by decide +kernel)
theorem m_463 : (.instanceMethod ⟨"ConeRounds", "stop", "(IIII)I"⟩ : Cond) ∈ wU := wU_m 463 (by decide +kernel) (by decide +kernel)
theorem m_464 : (.selects "ConeRounds" ⟨"ConeRounds", "stop", "(IIII)I"⟩ ⟨"ConeRounds", "stop", "(IIII)I"⟩ : Cond) ∈ wU := wU_m 464 (by decide +kernel) (by decide +kernel)
theorem m_465 : (.code ⟨"ConeRounds", "stop", "(IIII)I"⟩ prog_1_method_14_code 6 (some .int) : Cond) ∈ wU := wU_m 465 (by decide +kernel) (by decide +kernel)
theorem m_466 : (.methodLink "ConeRounds" 153 ⟨"ConeRounds$Trail", "has", "(I)Z"⟩ : Cond) ∈ wU := wU_m 466 (by decide +kernel) (by decide +kernel)
theorem m_467 : (.instanceMethod ⟨"ConeRounds$Trail", "has", "(I)Z"⟩ : Cond) ∈ wU := wU_m 467 (by decide +kernel) (by decide +kernel)
theorem m_468 : (.selects "ConeRounds$Trail" ⟨"ConeRounds$Trail", "has", "(I)Z"⟩ ⟨"ConeRounds$Trail", "has", "(I)Z"⟩ : Cond) ∈ wU := wU_m 468 (by decide +kernel) (by decide +kernel)
theorem m_469 : (.code ⟨"ConeRounds$Trail", "has", "(I)Z"⟩ prog_8_method_3_code 2 (some .boolean) : Cond) ∈ wU := wU_m 469 (by decide +kernel) (by decide +kernel)
theorem m_470 : (.constant "ConeRounds" 154 (-1000002) : Cond) ∈ wU := wU_m 470 (by decide +kernel) (by decide +kernel)
theorem m_471 : (.methodLink "ConeRoundsLaw" 69 ⟨"ConeRounds", "left", "(III)I"⟩ : Cond) ∈ wU := wU_m 471 (by decide +kernel) (by decide +kernel)
theorem m_472 : (.instanceMethod ⟨"ConeRounds", "left", "(III)I"⟩ : Cond) ∈ wU := wU_m 472 (by decide +kernel) (by decide +kernel)
theorem m_473 : (.selects "ConeRounds" ⟨"ConeRounds", "left", "(III)I"⟩ ⟨"ConeRounds", "left", "(III)I"⟩ : Cond) ∈ wU := wU_m 473 (by decide +kernel) (by decide +kernel)
theorem m_474 : (.code ⟨"ConeRounds", "left", "(III)I"⟩ prog_1_method_15_code 5 (some .int) : Cond) ∈ wU := wU_m 474 (by decide +kernel) (by decide +kernel)
theorem m_475 : (.methodLink "ConeRoundsLaw" 73 ⟨"ConeRounds", "stand", "(III)I"⟩ : Cond) ∈ wU := wU_m 475 (by decide +kernel) (by decide +kernel)
theorem m_476 : (.instanceMethod ⟨"ConeRounds", "stand", "(III)I"⟩ : Cond) ∈ wU := wU_m 476 (by decide +kernel) (by decide +kernel)
theorem m_477 : (.selects "ConeRounds" ⟨"ConeRounds", "stand", "(III)I"⟩ ⟨"ConeRounds", "stand", "(III)I"⟩ : Cond) ∈ wU := wU_m 477 (by decide +kernel) (by decide +kernel)
theorem m_478 : (.code ⟨"ConeRounds", "stand", "(III)I"⟩ prog_1_method_16_code 6 (some .int) : Cond) ∈ wU := wU_m 478 (by decide +kernel) (by decide +kernel)
theorem m_479 : (.methodLink "ConeRounds" 171 ⟨"ConeRounds$Stands", "latestAhead", "(II)I"⟩ : Cond) ∈ wU := wU_m 479 (by decide +kernel) (by decide +kernel)
theorem m_480 : (.instanceMethod ⟨"ConeRounds$Stands", "latestAhead", "(II)I"⟩ : Cond) ∈ wU := wU_m 480 (by decide +kernel) (by decide +kernel)
theorem m_481 : (.selects "ConeRounds$Stands" ⟨"ConeRounds$Stands", "latestAhead", "(II)I"⟩ ⟨"ConeRounds$Stands", "latestAhead", "(II)I"⟩ : Cond) ∈ wU := wU_m 481 (by decide +kernel) (by decide +kernel)
theorem m_482 : (.code ⟨"ConeRounds$Stands", "latestAhead", "(II)I"⟩ prog_6_method_5_code 5 (some .int) : Cond) ∈ wU := wU_m 482 (by decide +kernel) (by decide +kernel)
theorem m_483 : (.methodLink "ConeRounds" 174 ⟨"ConeRounds$Stands", "has", "(I)Z"⟩ : Cond) ∈ wU := wU_m 483 (by decide +kernel) (by decide +kernel)
theorem m_484 : (.instanceMethod ⟨"ConeRounds$Stands", "has", "(I)Z"⟩ : Cond) ∈ wU := wU_m 484 (by decide +kernel) (by decide +kernel)
theorem m_485 : (.selects "ConeRounds$Stands" ⟨"ConeRounds$Stands", "has", "(I)Z"⟩ ⟨"ConeRounds$Stands", "has", "(I)Z"⟩ : Cond) ∈ wU := wU_m 485 (by decide +kernel) (by decide +kernel)
theorem m_486 : (.code ⟨"ConeRounds$Stands", "has", "(I)Z"⟩ prog_6_method_2_code 2 (some .boolean) : Cond) ∈ wU := wU_m 486 (by decide +kernel) (by decide +kernel)
theorem m_487 : (.methodLink "ConeRounds" 177 ⟨"ConeRounds$Stands", "isFull", "()Z"⟩ : Cond) ∈ wU := wU_m 487 (by decide +kernel) (by decide +kernel)
theorem m_488 : (.instanceMethod ⟨"ConeRounds$Stands", "isFull", "()Z"⟩ : Cond) ∈ wU := wU_m 488 (by decide +kernel) (by decide +kernel)
theorem m_489 : (.selects "ConeRounds$Stands" ⟨"ConeRounds$Stands", "isFull", "()Z"⟩ ⟨"ConeRounds$Stands", "isFull", "()Z"⟩ : Cond) ∈ wU := wU_m 489 (by decide +kernel) (by decide +kernel)
theorem m_490 : (.code ⟨"ConeRounds$Stands", "isFull", "()Z"⟩ prog_6_method_3_code 1 (some .boolean) : Cond) ∈ wU := wU_m 490 (by decide +kernel) (by decide +kernel)
theorem m_491 : (.methodLink "ConeRounds" 181 ⟨"ConeRounds$Stands", "add", "(IIII)I"⟩ : Cond) ∈ wU := wU_m 491 (by decide +kernel) (by decide +kernel)
theorem m_492 : (.instanceMethod ⟨"ConeRounds$Stands", "add", "(IIII)I"⟩ : Cond) ∈ wU := wU_m 492 (by decide +kernel) (by decide +kernel)
theorem m_493 : (.selects "ConeRounds$Stands" ⟨"ConeRounds$Stands", "add", "(IIII)I"⟩ ⟨"ConeRounds$Stands", "add", "(IIII)I"⟩ : Cond) ∈ wU := wU_m 493 (by decide +kernel) (by decide +kernel)
theorem m_494 : (.code ⟨"ConeRounds$Stands", "add", "(IIII)I"⟩ prog_6_method_4_code 5 (some .int) : Cond) ∈ wU := wU_m 494 (by decide +kernel) (by decide +kernel)
theorem m_495 : (.methodLink "ConeRoundsLaw" 77 ⟨"ConeRounds", "wrong", "(I)I"⟩ : Cond) ∈ wU := wU_m 495 (by decide +kernel) (by decide +kernel)
theorem m_496 : (.instanceMethod ⟨"ConeRounds", "wrong", "(I)I"⟩ : Cond) ∈ wU := wU_m 496 (by decide +kernel) (by decide +kernel)
theorem m_497 : (.selects "ConeRounds" ⟨"ConeRounds", "wrong", "(I)I"⟩ ⟨"ConeRounds", "wrong", "(I)I"⟩ : Cond) ∈ wU := wU_m 497 (by decide +kernel) (by decide +kernel)
theorem m_498 : (.code ⟨"ConeRounds", "wrong", "(I)I"⟩ prog_1_method_17_code 2 (some .int) : Cond) ∈ wU := wU_m 498 (by decide +kernel) (by decide +kernel)
theorem m_499 : (.methodLink "ConeRounds" 184 ⟨"ConeRounds", "faultOf", "(I)I"⟩ : Cond) ∈ wU := wU_m 499 (by decide +kernel) (by decide +kernel)
theorem m_501 : (.instanceMethod ⟨"ConeRounds", "faultOf", "(I)I"⟩ : Cond) ∈ wU := wU_m 501 (by decide +kernel) (by decide +kernel)
theorem m_502 : (.code ⟨"ConeRounds", "faultOf", "(I)I"⟩ prog_1_method_51_code 4 (some .int) : Cond) ∈ wU := wU_m 502 (by decide +kernel) (by decide +kernel)
theorem m_503 : (.methodLink "ConeRounds" 292 ⟨"ConeRounds", "isTooSoon", "(LConeRounds$Van;I)Z"⟩ : Cond) ∈ wU := wU_m 503 (by decide +kernel) (by decide +kernel)
theorem m_505 : (.instanceMethod ⟨"ConeRounds", "isTooSoon", "(LConeRounds$Van;I)Z"⟩ : Cond) ∈ wU := wU_m 505 (by decide +kernel) (by decide +kernel)
theorem m_506 : (.code ⟨"ConeRounds", "isTooSoon", "(LConeRounds$Van;I)Z"⟩ prog_1_method_52_code 5 (some .boolean) : Cond) ∈ wU := wU_m 506 (by decide +kernel) (by decide +kernel)
theorem m_507 : (.methodLink "ConeRounds" 295 ⟨"ConeRounds$Stands", "isTaken", "(I)Z"⟩ : Cond) ∈ wU := wU_m 507 (by decide +kernel) (by decide +kernel)
theorem m_508 : (.instanceMethod ⟨"ConeRounds$Stands", "isTaken", "(I)Z"⟩ : Cond) ∈ wU := wU_m 508 (by decide +kernel) (by decide +kernel)
theorem m_509 : (.selects "ConeRounds$Stands" ⟨"ConeRounds$Stands", "isTaken", "(I)Z"⟩ ⟨"ConeRounds$Stands", "isTaken", "(I)Z"⟩ : Cond) ∈ wU := wU_m 509 (by decide +kernel) (by decide +kernel)
theorem m_510 : (.code ⟨"ConeRounds$Stands", "isTaken", "(I)Z"⟩ prog_6_method_6_code 3 (some .boolean) : Cond) ∈ wU := wU_m 510 (by decide +kernel) (by decide +kernel)
theorem m_511 : (.methodLink "ConeRoundsLaw" 81 ⟨"ConeRounds", "clear", "()I"⟩ : Cond) ∈ wU := wU_m 511 (by decide +kernel) (by decide +kernel)
theorem m_512 : (.instanceMethod ⟨"ConeRounds", "clear", "()I"⟩ : Cond) ∈ wU := wU_m 512 (by decide +kernel) (by decide +kernel)
theorem m_513 : (.selects "ConeRounds" ⟨"ConeRounds", "clear", "()I"⟩ ⟨"ConeRounds", "clear", "()I"⟩ : Cond) ∈ wU := wU_m 513 (by decide +kernel) (by decide +kernel)
theorem m_514 : (.code ⟨"ConeRounds", "clear", "()I"⟩ prog_1_method_18_code 3 (some .int) : Cond) ∈ wU := wU_m 514 (by decide +kernel) (by decide +kernel)
theorem m_515 : (.methodLink "ConeRoundsLaw" 86 ⟨"ConeRounds", "holder", "(I)I"⟩ : Cond) ∈ wU := wU_m 515 (by decide +kernel) (by decide +kernel)
theorem m_516 : (.instanceMethod ⟨"ConeRounds", "holder", "(I)I"⟩ : Cond) ∈ wU := wU_m 516 (by decide +kernel) (by decide +kernel)
theorem m_517 : (.selects "ConeRounds" ⟨"ConeRounds", "holder", "(I)I"⟩ ⟨"ConeRounds", "holder", "(I)I"⟩ : Cond) ∈ wU := wU_m 517 (by decide +kernel) (by decide +kernel)
theorem m_518 : (.code ⟨"ConeRounds", "holder", "(I)I"⟩ prog_1_method_19_code 3 (some .int) : Cond) ∈ wU := wU_m 518 (by decide +kernel) (by decide +kernel)
theorem m_519 : (.methodLink "ConeRounds" 187 ⟨"ConeRounds", "holderOf", "(I)I"⟩ : Cond) ∈ wU := wU_m 519 (by decide +kernel) (by decide +kernel)
theorem m_521 : (.instanceMethod ⟨"ConeRounds", "holderOf", "(I)I"⟩ : Cond) ∈ wU := wU_m 521 (by decide +kernel) (by decide +kernel)
theorem m_522 : (.code ⟨"ConeRounds", "holderOf", "(I)I"⟩ prog_1_method_53_code 6 (some .int) : Cond) ∈ wU := wU_m 522 (by decide +kernel) (by decide +kernel)
theorem m_523 : (.methodLink "ConeRounds" 298 ⟨"ConeRounds$Stands", "countOf", "(II)I"⟩ : Cond) ∈ wU := wU_m 523 (by decide +kernel) (by decide +kernel)
theorem m_524 : (.instanceMethod ⟨"ConeRounds$Stands", "countOf", "(II)I"⟩ : Cond) ∈ wU := wU_m 524 (by decide +kernel) (by decide +kernel)
theorem m_525 : (.selects "ConeRounds$Stands" ⟨"ConeRounds$Stands", "countOf", "(II)I"⟩ ⟨"ConeRounds$Stands", "countOf", "(II)I"⟩ : Cond) ∈ wU := wU_m 525 (by decide +kernel) (by decide +kernel)
theorem m_526 : (.code ⟨"ConeRounds$Stands", "countOf", "(II)I"⟩ prog_6_method_7_code 5 (some .int) : Cond) ∈ wU := wU_m 526 (by decide +kernel) (by decide +kernel)
theorem m_527 : (.methodLink "ConeRoundsLaw" 90 ⟨"ConeRounds", "gets", "(IIII)I"⟩ : Cond) ∈ wU := wU_m 527 (by decide +kernel) (by decide +kernel)
theorem m_528 : (.instanceMethod ⟨"ConeRounds", "gets", "(IIII)I"⟩ : Cond) ∈ wU := wU_m 528 (by decide +kernel) (by decide +kernel)
theorem m_529 : (.selects "ConeRounds" ⟨"ConeRounds", "gets", "(IIII)I"⟩ ⟨"ConeRounds", "gets", "(IIII)I"⟩ : Cond) ∈ wU := wU_m 529 (by decide +kernel) (by decide +kernel)
theorem m_530 : (.code ⟨"ConeRounds", "gets", "(IIII)I"⟩ prog_1_method_20_code 9 (some .int) : Cond) ∈ wU := wU_m 530 (by decide +kernel) (by decide +kernel)
theorem m_531 : (.methodLink "ConeRounds" 190 ⟨"ConeRounds", "isPair", "(I)Z"⟩ : Cond) ∈ wU := wU_m 531 (by decide +kernel) (by decide +kernel)
theorem m_533 : (.instanceMethod ⟨"ConeRounds", "isPair", "(I)Z"⟩ : Cond) ∈ wU := wU_m 533 (by decide +kernel) (by decide +kernel)
theorem m_534 : (.code ⟨"ConeRounds", "isPair", "(I)Z"⟩ prog_1_method_37_code 2 (some .boolean) : Cond) ∈ wU := wU_m 534 (by decide +kernel) (by decide +kernel)
theorem m_535 : (.methodLink "ConeRounds" 193 ⟨"ConeRounds", "shareOf", "(IIIII)I"⟩ : Cond) ∈ wU := wU_m 535 (by decide +kernel) (by decide +kernel)
theorem m_537 : (.instanceMethod ⟨"ConeRounds", "shareOf", "(IIIII)I"⟩ : Cond) ∈ wU := wU_m 537 (by decide +kernel) (by decide +kernel)
theorem m_538 : (.code ⟨"ConeRounds", "shareOf", "(IIIII)I"⟩ prog_1_method_54_code 8 (some .int) : Cond) ∈ wU := wU_m 538 (by decide +kernel) (by decide +kernel)
theorem m_539 : (.methodLink "ConeRoundsLaw" 94 ⟨"ConeRounds", "balance", "(IIII)I"⟩ : Cond) ∈ wU := wU_m 539 (by decide +kernel) (by decide +kernel)
theorem m_540 : (.instanceMethod ⟨"ConeRounds", "balance", "(IIII)I"⟩ : Cond) ∈ wU := wU_m 540 (by decide +kernel) (by decide +kernel)
theorem m_541 : (.selects "ConeRounds" ⟨"ConeRounds", "balance", "(IIII)I"⟩ ⟨"ConeRounds", "balance", "(IIII)I"⟩ : Cond) ∈ wU := wU_m 541 (by decide +kernel) (by decide +kernel)
theorem m_542 : (.code ⟨"ConeRounds", "balance", "(IIII)I"⟩ prog_1_method_21_code 8 (some .int) : Cond) ∈ wU := wU_m 542 (by decide +kernel) (by decide +kernel)
theorem m_543 : (.methodLink "ConeRounds" 197 ⟨"ConeRounds", "areTwoVans", "(II)Z"⟩ : Cond) ∈ wU := wU_m 543 (by decide +kernel) (by decide +kernel)
theorem m_545 : (.instanceMethod ⟨"ConeRounds", "areTwoVans", "(II)Z"⟩ : Cond) ∈ wU := wU_m 545 (by decide +kernel) (by decide +kernel)
theorem m_546 : (.code ⟨"ConeRounds", "areTwoVans", "(II)Z"⟩ prog_1_method_42_code 3 (some .boolean) : Cond) ∈ wU := wU_m 546 (by decide +kernel) (by decide +kernel)
theorem m_547 : (.methodLink "ConeRounds" 201 ⟨"ConeRounds", "isBalance", "(IIIII)Z"⟩ : Cond) ∈ wU := wU_m 547 (by decide +kernel) (by decide +kernel)
theorem m_549 : (.instanceMethod ⟨"ConeRounds", "isBalance", "(IIIII)Z"⟩ : Cond) ∈ wU := wU_m 549 (by decide +kernel) (by decide +kernel)
theorem m_550 : (.code ⟨"ConeRounds", "isBalance", "(IIIII)Z"⟩ prog_1_method_55_code 6 (some .boolean) : Cond) ∈ wU := wU_m 550 (by decide +kernel) (by decide +kernel)
theorem m_551 : (.methodLink "ConeRounds" 301 ⟨"ConeRounds", "isContent", "(IIIII)Z"⟩ : Cond) ∈ wU := wU_m 551 (by decide +kernel) (by decide +kernel)
theorem m_553 : (.instanceMethod ⟨"ConeRounds", "isContent", "(IIIII)Z"⟩ : Cond) ∈ wU := wU_m 553 (by decide +kernel) (by decide +kernel)
theorem m_554 : (.code ⟨"ConeRounds", "isContent", "(IIIII)Z"⟩ prog_1_method_56_code 9 (some .boolean) : Cond) ∈ wU := wU_m 554 (by decide +kernel) (by decide +kernel)
theorem m_555 : (.methodLink "ConeRoundsLaw" 98 ⟨"ConeRounds", "together", "(III)I"⟩ : Cond) ∈ wU := wU_m 555 (by decide +kernel) (by decide +kernel)
theorem m_556 : (.instanceMethod ⟨"ConeRounds", "together", "(III)I"⟩ : Cond) ∈ wU := wU_m 556 (by decide +kernel) (by decide +kernel)
theorem m_557 : (.selects "ConeRounds" ⟨"ConeRounds", "together", "(III)I"⟩ ⟨"ConeRounds", "together", "(III)I"⟩ : Cond) ∈ wU := wU_m 557 (by decide +kernel) (by decide +kernel)
theorem m_558 : (.code ⟨"ConeRounds", "together", "(III)I"⟩ prog_1_method_22_code 11 (some .int) : Cond) ∈ wU := wU_m 558 (by decide +kernel) (by decide +kernel)
theorem m_559 : (.methodLink "ConeRoundsLaw" 102 ⟨"ConeRounds", "credit", "(I)I"⟩ : Cond) ∈ wU := wU_m 559 (by decide +kernel) (by decide +kernel)
theorem m_560 : (.instanceMethod ⟨"ConeRounds", "credit", "(I)I"⟩ : Cond) ∈ wU := wU_m 560 (by decide +kernel) (by decide +kernel)
theorem m_561 : (.selects "ConeRounds" ⟨"ConeRounds", "credit", "(I)I"⟩ ⟨"ConeRounds", "credit", "(I)I"⟩ : Cond) ∈ wU := wU_m 561 (by decide +kernel) (by decide +kernel)
theorem m_562 : (.code ⟨"ConeRounds", "credit", "(I)I"⟩ prog_1_method_23_code 3 (some .int) : Cond) ∈ wU := wU_m 562 (by decide +kernel) (by decide +kernel)
theorem m_563 : (.methodLink "ConeRoundsLaw" 106 ⟨"ConeRounds", "bill", "(II)I"⟩ : Cond) ∈ wU := wU_m 563 (by decide +kernel) (by decide +kernel)
theorem m_564 : (.instanceMethod ⟨"ConeRounds", "bill", "(II)I"⟩ : Cond) ∈ wU := wU_m 564 (by decide +kernel) (by decide +kernel)
theorem m_565 : (.selects "ConeRounds" ⟨"ConeRounds", "bill", "(II)I"⟩ ⟨"ConeRounds", "bill", "(II)I"⟩ : Cond) ∈ wU := wU_m 565 (by decide +kernel) (by decide +kernel)
theorem m_566 : (.code ⟨"ConeRounds", "bill", "(II)I"⟩ prog_1_method_24_code 3 (some .int) : Cond) ∈ wU := wU_m 566 (by decide +kernel) (by decide +kernel)
theorem m_567 : (.methodLink "ConeRounds" 208 ⟨"ConeRounds$Bills", "isFull", "()Z"⟩ : Cond) ∈ wU := wU_m 567 (by decide +kernel) (by decide +kernel)
theorem m_568 : (.instanceMethod ⟨"ConeRounds$Bills", "isFull", "()Z"⟩ : Cond) ∈ wU := wU_m 568 (by decide +kernel) (by decide +kernel)
theorem m_569 : (.selects "ConeRounds$Bills" ⟨"ConeRounds$Bills", "isFull", "()Z"⟩ ⟨"ConeRounds$Bills", "isFull", "()Z"⟩ : Cond) ∈ wU := wU_m 569 (by decide +kernel) (by decide +kernel)
theorem m_570 : (.code ⟨"ConeRounds$Bills", "isFull", "()Z"⟩ prog_3_method_3_code 1 (some .boolean) : Cond) ∈ wU := wU_m 570 (by decide +kernel) (by decide +kernel)
theorem m_571 : (.methodLink "ConeRounds" 209 ⟨"ConeRounds$Bills", "add", "(II)I"⟩ : Cond) ∈ wU := wU_m 571 (by decide +kernel) (by decide +kernel)
theorem m_572 : (.instanceMethod ⟨"ConeRounds$Bills", "add", "(II)I"⟩ : Cond) ∈ wU := wU_m 572 (by decide +kernel) (by decide +kernel)
theorem m_573 : (.selects "ConeRounds$Bills" ⟨"ConeRounds$Bills", "add", "(II)I"⟩ ⟨"ConeRounds$Bills", "add", "(II)I"⟩ : Cond) ∈ wU := wU_m 573 (by decide +kernel) (by decide +kernel)
theorem m_574 : (.code ⟨"ConeRounds$Bills", "add", "(II)I"⟩ prog_3_method_4_code 3 (some .int) : Cond) ∈ wU := wU_m 574 (by decide +kernel) (by decide +kernel)
theorem m_575 : (.methodLink "ConeRoundsLaw" 110 ⟨"ConeRounds", "pay", "(II)I"⟩ : Cond) ∈ wU := wU_m 575 (by decide +kernel) (by decide +kernel)
theorem m_576 : (.instanceMethod ⟨"ConeRounds", "pay", "(II)I"⟩ : Cond) ∈ wU := wU_m 576 (by decide +kernel) (by decide +kernel)
theorem m_577 : (.selects "ConeRounds" ⟨"ConeRounds", "pay", "(II)I"⟩ ⟨"ConeRounds", "pay", "(II)I"⟩ : Cond) ∈ wU := wU_m 577 (by decide +kernel) (by decide +kernel)
theorem m_578 : (.code ⟨"ConeRounds", "pay", "(II)I"⟩ prog_1_method_25_code 3 (some .int) : Cond) ∈ wU := wU_m 578 (by decide +kernel) (by decide +kernel)
theorem m_579 : (.methodLink "ConeRounds" 211 ⟨"ConeRounds$Bills", "has", "(I)Z"⟩ : Cond) ∈ wU := wU_m 579 (by decide +kernel) (by decide +kernel)
theorem m_580 : (.instanceMethod ⟨"ConeRounds$Bills", "has", "(I)Z"⟩ : Cond) ∈ wU := wU_m 580 (by decide +kernel) (by decide +kernel)
theorem m_581 : (.selects "ConeRounds$Bills" ⟨"ConeRounds$Bills", "has", "(I)Z"⟩ ⟨"ConeRounds$Bills", "has", "(I)Z"⟩ : Cond) ∈ wU := wU_m 581 (by decide +kernel) (by decide +kernel)
theorem m_582 : (.code ⟨"ConeRounds$Bills", "has", "(I)Z"⟩ prog_3_method_2_code 2 (some .boolean) : Cond) ∈ wU := wU_m 582 (by decide +kernel) (by decide +kernel)
theorem m_583 : (.methodLink "ConeRoundsLaw" 114 ⟨"ConeRounds", "owed", "(II)I"⟩ : Cond) ∈ wU := wU_m 583 (by decide +kernel) (by decide +kernel)
theorem m_584 : (.instanceMethod ⟨"ConeRounds", "owed", "(II)I"⟩ : Cond) ∈ wU := wU_m 584 (by decide +kernel) (by decide +kernel)
theorem m_585 : (.selects "ConeRounds" ⟨"ConeRounds", "owed", "(II)I"⟩ ⟨"ConeRounds", "owed", "(II)I"⟩ : Cond) ∈ wU := wU_m 585 (by decide +kernel) (by decide +kernel)
theorem m_586 : (.code ⟨"ConeRounds", "owed", "(II)I"⟩ prog_1_method_26_code 3 (some .int) : Cond) ∈ wU := wU_m 586 (by decide +kernel) (by decide +kernel)
theorem m_587 : (.methodLink "ConeRounds" 215 ⟨"ConeRounds$Bills", "owedOfAll", "(I)I"⟩ : Cond) ∈ wU := wU_m 587 (by decide +kernel) (by decide +kernel)
theorem m_588 : (.instanceMethod ⟨"ConeRounds$Bills", "owedOfAll", "(I)I"⟩ : Cond) ∈ wU := wU_m 588 (by decide +kernel) (by decide +kernel)
theorem m_589 : (.selects "ConeRounds$Bills" ⟨"ConeRounds$Bills", "owedOfAll", "(I)I"⟩ ⟨"ConeRounds$Bills", "owedOfAll", "(I)I"⟩ : Cond) ∈ wU := wU_m 589 (by decide +kernel) (by decide +kernel)
theorem m_590 : (.code ⟨"ConeRounds$Bills", "owedOfAll", "(I)I"⟩ prog_3_method_6_code 4 (some .int) : Cond) ∈ wU := wU_m 590 (by decide +kernel) (by decide +kernel)
theorem m_591 : (.methodLink "ConeRounds$Bills" 34 ⟨"ConeRounds$Bills", "owedOf", "(II)I"⟩ : Cond) ∈ wU := wU_m 591 (by decide +kernel) (by decide +kernel)
theorem m_592 : (.instanceMethod ⟨"ConeRounds$Bills", "owedOf", "(II)I"⟩ : Cond) ∈ wU := wU_m 592 (by decide +kernel) (by decide +kernel)
theorem m_593 : (.selects "ConeRounds$Bills" ⟨"ConeRounds$Bills", "owedOf", "(II)I"⟩ ⟨"ConeRounds$Bills", "owedOf", "(II)I"⟩ : Cond) ∈ wU := wU_m 593 (by decide +kernel) (by decide +kernel)
theorem m_594 : (.code ⟨"ConeRounds$Bills", "owedOf", "(II)I"⟩ prog_3_method_5_code 4 (some .int) : Cond) ∈ wU := wU_m 594 (by decide +kernel) (by decide +kernel)
theorem m_595 : (.methodLink "ConeRounds$Bills" 28 ⟨"java/lang/Math", "max", "(II)I"⟩ : Cond) ∈ wU := wU_m 595 (by decide +kernel) (by decide +kernel)
theorem m_596 : (.static ⟨"java/lang/Math", "max", "(II)I"⟩ : Cond) ∈ wU := wU_m 596 (by decide +kernel) (by decide +kernel)
theorem m_597 : (.code ⟨"java/lang/Math", "max", "(II)I"⟩ prog_12_method_65_code 2 (some .int) : Cond) ∈ wU := wU_m 597 (by decide +kernel) (by decide +kernel)
theorem m_598 : (.methodLink "ConeRounds" 218 ⟨"ConeRounds$Bills", "owedOf", "(II)I"⟩ : Cond) ∈ wU := wU_m 598 (by decide +kernel) (by decide +kernel)
theorem m_599 : (.methodLink "ConeRoundsLaw" 118 ⟨"ConeRounds", "tell", "(I)I"⟩ : Cond) ∈ wU := wU_m 599 (by decide +kernel) (by decide +kernel)
theorem m_600 : (.instanceMethod ⟨"ConeRounds", "tell", "(I)I"⟩ : Cond) ∈ wU := wU_m 600 (by decide +kernel) (by decide +kernel)
theorem m_601 : (.selects "ConeRounds" ⟨"ConeRounds", "tell", "(I)I"⟩ ⟨"ConeRounds", "tell", "(I)I"⟩ : Cond) ∈ wU := wU_m 601 (by decide +kernel) (by decide +kernel)
theorem m_602 : (.code ⟨"ConeRounds", "tell", "(I)I"⟩ prog_1_method_27_code 2 (some .int) : Cond) ∈ wU := wU_m 602 (by decide +kernel) (by decide +kernel)
theorem m_603 : (.methodLink "ConeRoundsLaw" 122 ⟨"ConeRounds", "check", "(I)I"⟩ : Cond) ∈ wU := wU_m 603 (by decide +kernel) (by decide +kernel)
theorem m_604 : (.instanceMethod ⟨"ConeRounds", "check", "(I)I"⟩ : Cond) ∈ wU := wU_m 604 (by decide +kernel) (by decide +kernel)
theorem m_605 : (.selects "ConeRounds" ⟨"ConeRounds", "check", "(I)I"⟩ ⟨"ConeRounds", "check", "(I)I"⟩ : Cond) ∈ wU := wU_m 605 (by decide +kernel) (by decide +kernel)
theorem m_606 : (.code ⟨"ConeRounds", "check", "(I)I"⟩ prog_1_method_28_code 4 (some .int) : Cond) ∈ wU := wU_m 606 (by decide +kernel) (by decide +kernel)
theorem m_607 : (.methodLink "ConeRounds" 221 ⟨"ConeRounds", "walkTold", "(LConeRounds$Van;I)Z"⟩ : Cond) ∈ wU := wU_m 607 (by decide +kernel) (by decide +kernel)
theorem m_609 : (.instanceMethod ⟨"ConeRounds", "walkTold", "(LConeRounds$Van;I)Z"⟩ : Cond) ∈ wU := wU_m 609 (by decide +kernel) (by decide +kernel)
theorem m_610 : (.code ⟨"ConeRounds", "walkTold", "(LConeRounds$Van;I)Z"⟩ prog_1_method_49_code 5 (some .boolean) : Cond) ∈ wU := wU_m 610 (by decide +kernel) (by decide +kernel)
theorem m_611 : (.methodLink "ConeRounds" 283 ⟨"ConeRounds", "goesOn", "(LConeRounds$Van;II)Z"⟩ : Cond) ∈ wU := wU_m 611 (by decide +kernel) (by decide +kernel)
theorem m_613 : (.instanceMethod ⟨"ConeRounds", "goesOn", "(LConeRounds$Van;II)Z"⟩ : Cond) ∈ wU := wU_m 613 (by decide +kernel) (by decide +kernel)
theorem m_614 : (.code ⟨"ConeRounds", "goesOn", "(LConeRounds$Van;II)Z"⟩ prog_1_method_50_code 5 (some .boolean) : Cond) ∈ wU := wU_m 614 (by decide +kernel) (by decide +kernel)
theorem m_615 : (.methodLink "ConeRoundsLaw" 126 ⟨"ConeRounds", "count", "(I)I"⟩ : Cond) ∈ wU := wU_m 615 (by decide +kernel) (by decide +kernel)
theorem m_616 : (.instanceMethod ⟨"ConeRounds", "count", "(I)I"⟩ : Cond) ∈ wU := wU_m 616 (by decide +kernel) (by decide +kernel)
theorem m_617 : (.selects "ConeRounds" ⟨"ConeRounds", "count", "(I)I"⟩ ⟨"ConeRounds", "count", "(I)I"⟩ : Cond) ∈ wU := wU_m 617 (by decide +kernel) (by decide +kernel)
theorem m_618 : (.code ⟨"ConeRounds", "count", "(I)I"⟩ prog_1_method_29_code 2 (some .int) : Cond) ∈ wU := wU_m 618 (by decide +kernel) (by decide +kernel)
theorem m_619 : (.methodLink "ConeRounds" 225 ⟨"ConeRounds", "stockOfAll", "()I"⟩ : Cond) ∈ wU := wU_m 619 (by decide +kernel) (by decide +kernel)
theorem m_621 : (.instanceMethod ⟨"ConeRounds", "stockOfAll", "()I"⟩ : Cond) ∈ wU := wU_m 621 (by decide +kernel) (by decide +kernel)
theorem m_622 : (.code ⟨"ConeRounds", "stockOfAll", "()I"⟩ prog_1_method_43_code 4 (some .int) : Cond) ∈ wU := wU_m 622 (by decide +kernel) (by decide +kernel)
theorem m_623 : (.methodLink "ConeRoundsLaw" 130 ⟨"ConeRounds", "found", "(I)I"⟩ : Cond) ∈ wU := wU_m 623 (by decide +kernel) (by decide +kernel)
theorem m_624 : (.instanceMethod ⟨"ConeRounds", "found", "(I)I"⟩ : Cond) ∈ wU := wU_m 624 (by decide +kernel) (by decide +kernel)
theorem m_625 : (.selects "ConeRounds" ⟨"ConeRounds", "found", "(I)I"⟩ ⟨"ConeRounds", "found", "(I)I"⟩ : Cond) ∈ wU := wU_m 625 (by decide +kernel) (by decide +kernel)
theorem m_626 : (.code ⟨"ConeRounds", "found", "(I)I"⟩ prog_1_method_30_code 2 (some .int) : Cond) ∈ wU := wU_m 626 (by decide +kernel) (by decide +kernel)
theorem m_627 : (.classLink "ConeRoundsLaw" 10 "ConeRoundsModel" : Cond) ∈ wU := wU_m 627 (by decide +kernel) (by decide +kernel)
theorem m_628 : (.instantiable "ConeRoundsModel" 35 : Cond) ∈ wU := wU_m 628 (by decide +kernel) (by decide +kernel)
theorem m_629 : (.methodLink "ConeRoundsLaw" 12 ⟨"ConeRoundsModel", "<init>", "()V"⟩ : Cond) ∈ wU := wU_m 629 (by decide +kernel) (by decide +kernel)
theorem m_630 : (.instanceMethod ⟨"ConeRoundsModel", "<init>", "()V"⟩ : Cond) ∈ wU := wU_m 630 (by decide +kernel) (by decide +kernel)
theorem m_631 : (.code ⟨"ConeRoundsModel", "<init>", "()V"⟩ prog_11_method_1_code 1 none : Cond) ∈ wU := wU_m 631 (by decide +kernel) (by decide +kernel)
theorem m_632 : (.methodLink "ConeRoundsModel" 1 ⟨"java/lang/Object", "<init>", "()V"⟩ : Cond) ∈ wU := wU_m 632 (by decide +kernel) (by decide +kernel)
theorem m_633 : (.fieldLink "ConeRoundsModel" 90 "ConeRoundsModel" "streets" "I" : Cond) ∈ wU := wU_m 633 (by decide +kernel) (by decide +kernel)
theorem m_634 : (.fieldLink "ConeRoundsModel" 97 "ConeRoundsModel" "vans" "I" : Cond) ∈ wU := wU_m 634 (by decide +kernel) (by decide +kernel)
theorem m_635 : (.fieldLink "ConeRoundsModel" 162 "ConeRoundsModel" "stands" "I" : Cond) ∈ wU := wU_m 635 (by decide +kernel) (by decide +kernel)
theorem m_636 : (.fieldLink "ConeRoundsModel" 185 "ConeRoundsModel" "bills" "I" : Cond) ∈ wU := wU_m 636 (by decide +kernel) (by decide +kernel)
theorem m_637 : (.fieldLink "ConeRoundsModel" 194 "ConeRoundsModel" "waiting" "I" : Cond) ∈ wU := wU_m 637 (by decide +kernel) (by decide +kernel)
theorem m_638 : (.fieldLink "ConeRoundsModel" 7 "ConeRoundsModel" "heatNow" "I" : Cond) ∈ wU := wU_m 638 (by decide +kernel) (by decide +kernel)
theorem m_639 : (.fieldLink "ConeRoundsModel" 13 "ConeRoundsModel" "barFrom" "I" : Cond) ∈ wU := wU_m 639 (by decide +kernel) (by decide +kernel)
theorem m_640 : (.fieldLink "ConeRoundsModel" 114 "ConeRoundsModel" "barTo" "I" : Cond) ∈ wU := wU_m 640 (by decide +kernel) (by decide +kernel)
theorem m_641 : (.fieldLink "ConeRoundsModel" 16 "ConeRoundsModel" "chimeMost" "I" : Cond) ∈ wU := wU_m 641 (by decide +kernel) (by decide +kernel)
theorem m_642 : (.fieldLink "ConeRoundsModel" 19 "ConeRoundsModel" "creditNow" "I" : Cond) ∈ wU := wU_m 642 (by decide +kernel) (by decide +kernel)
theorem m_643 : (.fieldLink "ConeRoundsModel" 22 "ConeRoundsModel" "school" "[I" : Cond) ∈ wU := wU_m 643 (by decide +kernel) (by decide +kernel)
theorem m_644 : (.fieldLink "ConeRoundsModel" 26 "ConeRoundsModel" "ways" "[I" : Cond) ∈ wU := wU_m 644 (by decide +kernel) (by decide +kernel)
theorem m_645 : (.fieldLink "ConeRoundsModel" 29 "ConeRoundsModel" "wishes" "[I" : Cond) ∈ wU := wU_m 645 (by decide +kernel) (by decide +kernel)
theorem m_646 : (.fieldLink "ConeRoundsModel" 32 "ConeRoundsModel" "kind" "[I" : Cond) ∈ wU := wU_m 646 (by decide +kernel) (by decide +kernel)
theorem m_647 : (.fieldLink "ConeRoundsModel" 35 "ConeRoundsModel" "stocks" "[I" : Cond) ∈ wU := wU_m 647 (by decide +kernel) (by decide +kernel)
theorem m_648 : (.fieldLink "ConeRoundsModel" 38 "ConeRoundsModel" "licences" "[I" : Cond) ∈ wU := wU_m 648 (by decide +kernel) (by decide +kernel)
theorem m_649 : (.fieldLink "ConeRoundsModel" 41 "ConeRoundsModel" "standVan" "[I" : Cond) ∈ wU := wU_m 649 (by decide +kernel) (by decide +kernel)
theorem m_650 : (.fieldLink "ConeRoundsModel" 44 "ConeRoundsModel" "standStreet" "[I" : Cond) ∈ wU := wU_m 650 (by decide +kernel) (by decide +kernel)
theorem m_651 : (.fieldLink "ConeRoundsModel" 47 "ConeRoundsModel" "standHour" "[I" : Cond) ∈ wU := wU_m 651 (by decide +kernel) (by decide +kernel)
theorem m_652 : (.fieldLink "ConeRoundsModel" 50 "ConeRoundsModel" "standChime" "[I" : Cond) ∈ wU := wU_m 652 (by decide +kernel) (by decide +kernel)
theorem m_653 : (.fieldLink "ConeRoundsModel" 53 "ConeRoundsModel" "left0" "[I" : Cond) ∈ wU := wU_m 653 (by decide +kernel) (by decide +kernel)
theorem m_654 : (.fieldLink "ConeRoundsModel" 56 "ConeRoundsModel" "billDay" "[I" : Cond) ∈ wU := wU_m 654 (by decide +kernel) (by decide +kernel)
theorem m_655 : (.fieldLink "ConeRoundsModel" 59 "ConeRoundsModel" "due" "[I" : Cond) ∈ wU := wU_m 655 (by decide +kernel) (by decide +kernel)
theorem m_656 : (.fieldLink "ConeRoundsModel" 62 "ConeRoundsModel" "waits" "[I" : Cond) ∈ wU := wU_m 656 (by decide +kernel) (by decide +kernel)
theorem m_657 : (.fieldLink "ConeRoundsModel" 65 "ConeRoundsModel" "counted" "[I" : Cond) ∈ wU := wU_m 657 (by decide +kernel) (by decide +kernel)
theorem m_658 : (.fieldLink "ConeRoundsModel" 68 "ConeRoundsModel" "rowStreet" "[I" : Cond) ∈ wU := wU_m 658 (by decide +kernel) (by decide +kernel)
theorem m_659 : (.fieldLink "ConeRoundsModel" 71 "ConeRoundsModel" "rowHour" "[I" : Cond) ∈ wU := wU_m 659 (by decide +kernel) (by decide +kernel)
theorem m_660 : (.fieldLink "ConeRoundsModel" 74 "ConeRoundsModel" "sold" "[I" : Cond) ∈ wU := wU_m 660 (by decide +kernel) (by decide +kernel)
theorem m_661 : (.fieldLink "ConeRoundsModel" 77 "ConeRoundsModel" "kept" "[I" : Cond) ∈ wU := wU_m 661 (by decide +kernel) (by decide +kernel)
theorem m_662 : (.fieldLink "ConeRoundsModel" 80 "ConeRoundsModel" "tried" "[I" : Cond) ∈ wU := wU_m 662 (by decide +kernel) (by decide +kernel)
theorem m_663 : (.fieldLink "ConeRoundsModel" 83 "ConeRoundsModel" "bestStreet" "[I" : Cond) ∈ wU := wU_m 663 (by decide +kernel) (by decide +kernel)
theorem m_664 : (.fieldLink "ConeRoundsModel" 86 "ConeRoundsModel" "bestHour" "[I" : Cond) ∈ wU := wU_m 664 (by decide +kernel) (by decide +kernel)
theorem m_665 : (.fieldLink "ConeRoundsModel" 131 "ConeRoundsModel" "bestMany" "I" : Cond) ∈ wU := wU_m 665 (by decide +kernel) (by decide +kernel)
theorem m_666 : (.fieldLink "ConeRoundsModel" 134 "ConeRoundsModel" "bestSold" "I" : Cond) ∈ wU := wU_m 666 (by decide +kernel) (by decide +kernel)
theorem m_667 : (.fieldLink "ConeRoundsModel" 137 "ConeRoundsModel" "bestKept" "I" : Cond) ∈ wU := wU_m 667 (by decide +kernel) (by decide +kernel)
theorem m_668 : (.lays "ConeRoundsModel" "ConeRoundsModel" "streets" "I" : Cond) ∈ wU := wU_m 668 (by decide +kernel) (by decide +kernel)
theorem m_670 : (.lays "ConeRoundsModel" "ConeRoundsModel" "vans" "I" : Cond) ∈ wU := wU_m 670 (by decide +kernel) (by decide +kernel)
theorem m_672 : (.lays "ConeRoundsModel" "ConeRoundsModel" "stands" "I" : Cond) ∈ wU := wU_m 672 (by decide +kernel) (by decide +kernel)
theorem m_674 : (.lays "ConeRoundsModel" "ConeRoundsModel" "bills" "I" : Cond) ∈ wU := wU_m 674 (by decide +kernel) (by decide +kernel)
theorem m_676 : (.lays "ConeRoundsModel" "ConeRoundsModel" "waiting" "I" : Cond) ∈ wU := wU_m 676 (by decide +kernel) (by decide +kernel)
theorem m_678 : (.lays "ConeRoundsModel" "ConeRoundsModel" "heatNow" "I" : Cond) ∈ wU := wU_m 678 (by decide +kernel) (by decide +kernel)
theorem m_680 : (.lays "ConeRoundsModel" "ConeRoundsModel" "barFrom" "I" : Cond) ∈ wU := wU_m 680 (by decide +kernel) (by decide +kernel)
theorem m_682 : (.lays "ConeRoundsModel" "ConeRoundsModel" "barTo" "I" : Cond) ∈ wU := wU_m 682 (by decide +kernel) (by decide +kernel)
theorem m_684 : (.lays "ConeRoundsModel" "ConeRoundsModel" "chimeMost" "I" : Cond) ∈ wU := wU_m 684 (by decide +kernel) (by decide +kernel)
theorem m_686 : (.lays "ConeRoundsModel" "ConeRoundsModel" "creditNow" "I" : Cond) ∈ wU := wU_m 686 (by decide +kernel) (by decide +kernel)
theorem m_688 : (.laysFinal "ConeRoundsModel" "ConeRoundsModel" "school" "[I" : Cond) ∈ wU := wU_m 688 (by decide +kernel) (by decide +kernel)
theorem m_690 : (.laysFinal "ConeRoundsModel" "ConeRoundsModel" "ways" "[I" : Cond) ∈ wU := wU_m 690 (by decide +kernel) (by decide +kernel)
theorem m_692 : (.laysFinal "ConeRoundsModel" "ConeRoundsModel" "wishes" "[I" : Cond) ∈ wU := wU_m 692 (by decide +kernel) (by decide +kernel)
theorem m_694 : (.laysFinal "ConeRoundsModel" "ConeRoundsModel" "kind" "[I" : Cond) ∈ wU := wU_m 694 (by decide +kernel) (by decide +kernel)
theorem m_696 : (.laysFinal "ConeRoundsModel" "ConeRoundsModel" "stocks" "[I" : Cond) ∈ wU := wU_m 696 (by decide +kernel) (by decide +kernel)
theorem m_698 : (.laysFinal "ConeRoundsModel" "ConeRoundsModel" "licences" "[I" : Cond) ∈ wU := wU_m 698 (by decide +kernel) (by decide +kernel)
theorem m_700 : (.laysFinal "ConeRoundsModel" "ConeRoundsModel" "standVan" "[I" : Cond) ∈ wU := wU_m 700 (by decide +kernel) (by decide +kernel)
theorem m_702 : (.laysFinal "ConeRoundsModel" "ConeRoundsModel" "standStreet" "[I" : Cond) ∈ wU := wU_m 702 (by decide +kernel) (by decide +kernel)
theorem m_704 : (.laysFinal "ConeRoundsModel" "ConeRoundsModel" "standHour" "[I" : Cond) ∈ wU := wU_m 704 (by decide +kernel) (by decide +kernel)
theorem m_706 : (.laysFinal "ConeRoundsModel" "ConeRoundsModel" "standChime" "[I" : Cond) ∈ wU := wU_m 706 (by decide +kernel) (by decide +kernel)
theorem m_708 : (.laysFinal "ConeRoundsModel" "ConeRoundsModel" "left0" "[I" : Cond) ∈ wU := wU_m 708 (by decide +kernel) (by decide +kernel)
theorem m_710 : (.laysFinal "ConeRoundsModel" "ConeRoundsModel" "billDay" "[I" : Cond) ∈ wU := wU_m 710 (by decide +kernel) (by decide +kernel)
theorem m_712 : (.laysFinal "ConeRoundsModel" "ConeRoundsModel" "due" "[I" : Cond) ∈ wU := wU_m 712 (by decide +kernel) (by decide +kernel)
theorem m_714 : (.laysFinal "ConeRoundsModel" "ConeRoundsModel" "waits" "[I" : Cond) ∈ wU := wU_m 714 (by decide +kernel) (by decide +kernel)
theorem m_716 : (.laysFinal "ConeRoundsModel" "ConeRoundsModel" "counted" "[I" : Cond) ∈ wU := wU_m 716 (by decide +kernel) (by decide +kernel)
theorem m_718 : (.laysFinal "ConeRoundsModel" "ConeRoundsModel" "rowStreet" "[I" : Cond) ∈ wU := wU_m 718 (by decide +kernel) (by decide +kernel)
theorem m_720 : (.laysFinal "ConeRoundsModel" "ConeRoundsModel" "rowHour" "[I" : Cond) ∈ wU := wU_m 720 (by decide +kernel) (by decide +kernel)
theorem m_722 : (.laysFinal "ConeRoundsModel" "ConeRoundsModel" "sold" "[I" : Cond) ∈ wU := wU_m 722 (by decide +kernel) (by decide +kernel)
theorem m_724 : (.laysFinal "ConeRoundsModel" "ConeRoundsModel" "kept" "[I" : Cond) ∈ wU := wU_m 724 (by decide +kernel) (by decide +kernel)
theorem m_726 : (.laysFinal "ConeRoundsModel" "ConeRoundsModel" "tried" "[I" : Cond) ∈ wU := wU_m 726 (by decide +kernel) (by decide +kernel)
theorem m_728 : (.laysFinal "ConeRoundsModel" "ConeRoundsModel" "bestStreet" "[I" : Cond) ∈ wU := wU_m 728 (by decide +kernel) (by decide +kernel)
theorem m_730 : (.laysFinal "ConeRoundsModel" "ConeRoundsModel" "bestHour" "[I" : Cond) ∈ wU := wU_m 730 (by decide +kernel) (by decide +kernel)
theorem m_732 : (.lays "ConeRoundsModel" "ConeRoundsModel" "bestMany" "I" : Cond) ∈ wU := wU_m 732 (by decide +kernel) (by decide +kernel)
theorem m_734 : (.lays "ConeRoundsModel" "ConeRoundsModel" "bestSold" "I" : Cond) ∈ wU := wU_m 734 (by decide +kernel) (by decide +kernel)
theorem m_736 : (.lays "ConeRoundsModel" "ConeRoundsModel" "bestKept" "I" : Cond) ∈ wU := wU_m 736 (by decide +kernel) (by decide +kernel)
theorem m_739 : (.methodLink "ConeRoundsLaw" 17 ⟨"ConeRoundsModel", "street", "(I)I"⟩ : Cond) ∈ wU := wU_m 739 (by decide +kernel) (by decide +kernel)
theorem m_740 : (.instanceMethod ⟨"ConeRoundsModel", "street", "(I)I"⟩ : Cond) ∈ wU := wU_m 740 (by decide +kernel) (by decide +kernel)
theorem m_741 : (.selects "ConeRoundsModel" ⟨"ConeRoundsModel", "street", "(I)I"⟩ ⟨"ConeRoundsModel", "street", "(I)I"⟩ : Cond) ∈ wU := wU_m 741 (by decide +kernel) (by decide +kernel)
theorem m_742 : (.code ⟨"ConeRoundsModel", "street", "(I)I"⟩ prog_11_method_9_code 2 (some .int) : Cond) ∈ wU := wU_m 742 (by decide +kernel) (by decide +kernel)
theorem m_743 : (.methodLink "ConeRoundsModel" 93 ⟨"ConeRoundsModel", "in", "(III)Z"⟩ : Cond) ∈ wU := wU_m 743 (by decide +kernel) (by decide +kernel)
theorem m_744 : (.static ⟨"ConeRoundsModel", "in", "(III)Z"⟩ : Cond) ∈ wU := wU_m 744 (by decide +kernel) (by decide +kernel)
theorem m_745 : (.code ⟨"ConeRoundsModel", "in", "(III)Z"⟩ prog_11_method_3_code 3 (some .boolean) : Cond) ∈ wU := wU_m 745 (by decide +kernel) (by decide +kernel)
theorem m_746 : (.methodLink "ConeRoundsModel" 107 ⟨"ConeRoundsModel", "finds", "(I)I"⟩ : Cond) ∈ wU := wU_m 746 (by decide +kernel) (by decide +kernel)
theorem m_748 : (.instanceMethod ⟨"ConeRoundsModel", "finds", "(I)I"⟩ : Cond) ∈ wU := wU_m 748 (by decide +kernel) (by decide +kernel)
theorem m_749 : (.code ⟨"ConeRoundsModel", "finds", "(I)I"⟩ prog_11_method_4_code 2 (some .int) : Cond) ∈ wU := wU_m 749 (by decide +kernel) (by decide +kernel)
theorem m_750 : (.constant "ConeRoundsModel" 89 (-1000000) : Cond) ∈ wU := wU_m 750 (by decide +kernel) (by decide +kernel)
theorem m_751 : (.methodLink "ConeRoundsLaw" 22 ⟨"ConeRoundsModel", "way", "(III)I"⟩ : Cond) ∈ wU := wU_m 751 (by decide +kernel) (by decide +kernel)
theorem m_752 : (.instanceMethod ⟨"ConeRoundsModel", "way", "(III)I"⟩ : Cond) ∈ wU := wU_m 752 (by decide +kernel) (by decide +kernel)
theorem m_753 : (.selects "ConeRoundsModel" ⟨"ConeRoundsModel", "way", "(III)I"⟩ ⟨"ConeRoundsModel", "way", "(III)I"⟩ : Cond) ∈ wU := wU_m 753 (by decide +kernel) (by decide +kernel)
theorem m_754 : (.code ⟨"ConeRoundsModel", "way", "(III)I"⟩ prog_11_method_10_code 5 (some .int) : Cond) ∈ wU := wU_m 754 (by decide +kernel) (by decide +kernel)
theorem m_755 : (.methodLink "ConeRoundsModel" 100 ⟨"ConeRoundsModel", "isStreet", "(I)Z"⟩ : Cond) ∈ wU := wU_m 755 (by decide +kernel) (by decide +kernel)
theorem m_757 : (.instanceMethod ⟨"ConeRoundsModel", "isStreet", "(I)Z"⟩ : Cond) ∈ wU := wU_m 757 (by decide +kernel) (by decide +kernel)
theorem m_758 : (.code ⟨"ConeRoundsModel", "isStreet", "(I)Z"⟩ prog_11_method_5_code 2 (some .boolean) : Cond) ∈ wU := wU_m 758 (by decide +kernel) (by decide +kernel)
theorem m_759 : (.methodLink "ConeRoundsLaw" 26 ⟨"ConeRoundsModel", "wish", "(III)I"⟩ : Cond) ∈ wU := wU_m 759 (by decide +kernel) (by decide +kernel)
theorem m_760 : (.instanceMethod ⟨"ConeRoundsModel", "wish", "(III)I"⟩ : Cond) ∈ wU := wU_m 760 (by decide +kernel) (by decide +kernel)
theorem m_761 : (.selects "ConeRoundsModel" ⟨"ConeRoundsModel", "wish", "(III)I"⟩ ⟨"ConeRoundsModel", "wish", "(III)I"⟩ : Cond) ∈ wU := wU_m 761 (by decide +kernel) (by decide +kernel)
theorem m_762 : (.code ⟨"ConeRoundsModel", "wish", "(III)I"⟩ prog_11_method_11_code 5 (some .int) : Cond) ∈ wU := wU_m 762 (by decide +kernel) (by decide +kernel)
theorem m_763 : (.methodLink "ConeRoundsModel" 104 ⟨"ConeRoundsModel", "isHour", "(I)Z"⟩ : Cond) ∈ wU := wU_m 763 (by decide +kernel) (by decide +kernel)
theorem m_764 : (.static ⟨"ConeRoundsModel", "isHour", "(I)Z"⟩ : Cond) ∈ wU := wU_m 764 (by decide +kernel) (by decide +kernel)
theorem m_765 : (.code ⟨"ConeRoundsModel", "isHour", "(I)Z"⟩ prog_11_method_7_code 1 (some .boolean) : Cond) ∈ wU := wU_m 765 (by decide +kernel) (by decide +kernel)
theorem m_766 : (.methodLink "ConeRoundsLaw" 30 ⟨"ConeRoundsModel", "heat", "(I)I"⟩ : Cond) ∈ wU := wU_m 766 (by decide +kernel) (by decide +kernel)
theorem m_767 : (.instanceMethod ⟨"ConeRoundsModel", "heat", "(I)I"⟩ : Cond) ∈ wU := wU_m 767 (by decide +kernel) (by decide +kernel)
theorem m_768 : (.selects "ConeRoundsModel" ⟨"ConeRoundsModel", "heat", "(I)I"⟩ ⟨"ConeRoundsModel", "heat", "(I)I"⟩ : Cond) ∈ wU := wU_m 768 (by decide +kernel) (by decide +kernel)
theorem m_769 : (.code ⟨"ConeRoundsModel", "heat", "(I)I"⟩ prog_11_method_12_code 3 (some .int) : Cond) ∈ wU := wU_m 769 (by decide +kernel) (by decide +kernel)
theorem m_770 : (.methodLink "ConeRoundsLaw" 34 ⟨"ConeRoundsModel", "van", "(I)I"⟩ : Cond) ∈ wU := wU_m 770 (by decide +kernel) (by decide +kernel)
theorem m_771 : (.instanceMethod ⟨"ConeRoundsModel", "van", "(I)I"⟩ : Cond) ∈ wU := wU_m 771 (by decide +kernel) (by decide +kernel)
theorem m_772 : (.selects "ConeRoundsModel" ⟨"ConeRoundsModel", "van", "(I)I"⟩ ⟨"ConeRoundsModel", "van", "(I)I"⟩ : Cond) ∈ wU := wU_m 772 (by decide +kernel) (by decide +kernel)
theorem m_773 : (.code ⟨"ConeRoundsModel", "van", "(I)I"⟩ prog_11_method_13_code 2 (some .int) : Cond) ∈ wU := wU_m 773 (by decide +kernel) (by decide +kernel)
theorem m_774 : (.methodLink "ConeRoundsLaw" 39 ⟨"ConeRoundsModel", "as", "(II)I"⟩ : Cond) ∈ wU := wU_m 774 (by decide +kernel) (by decide +kernel)
theorem m_775 : (.instanceMethod ⟨"ConeRoundsModel", "as", "(II)I"⟩ : Cond) ∈ wU := wU_m 775 (by decide +kernel) (by decide +kernel)
theorem m_776 : (.selects "ConeRoundsModel" ⟨"ConeRoundsModel", "as", "(II)I"⟩ ⟨"ConeRoundsModel", "as", "(II)I"⟩ : Cond) ∈ wU := wU_m 776 (by decide +kernel) (by decide +kernel)
theorem m_777 : (.code ⟨"ConeRoundsModel", "as", "(II)I"⟩ prog_11_method_14_code 3 (some .int) : Cond) ∈ wU := wU_m 777 (by decide +kernel) (by decide +kernel)
theorem m_778 : (.methodLink "ConeRoundsModel" 111 ⟨"ConeRoundsModel", "isVan", "(I)Z"⟩ : Cond) ∈ wU := wU_m 778 (by decide +kernel) (by decide +kernel)
theorem m_780 : (.instanceMethod ⟨"ConeRoundsModel", "isVan", "(I)Z"⟩ : Cond) ∈ wU := wU_m 780 (by decide +kernel) (by decide +kernel)
theorem m_781 : (.code ⟨"ConeRoundsModel", "isVan", "(I)Z"⟩ prog_11_method_6_code 2 (some .boolean) : Cond) ∈ wU := wU_m 781 (by decide +kernel) (by decide +kernel)
theorem m_782 : (.methodLink "ConeRoundsLaw" 43 ⟨"ConeRoundsModel", "stock", "(II)I"⟩ : Cond) ∈ wU := wU_m 782 (by decide +kernel) (by decide +kernel)
theorem m_783 : (.instanceMethod ⟨"ConeRoundsModel", "stock", "(II)I"⟩ : Cond) ∈ wU := wU_m 783 (by decide +kernel) (by decide +kernel)
theorem m_784 : (.selects "ConeRoundsModel" ⟨"ConeRoundsModel", "stock", "(II)I"⟩ ⟨"ConeRoundsModel", "stock", "(II)I"⟩ : Cond) ∈ wU := wU_m 784 (by decide +kernel) (by decide +kernel)
theorem m_785 : (.code ⟨"ConeRoundsModel", "stock", "(II)I"⟩ prog_11_method_15_code 4 (some .int) : Cond) ∈ wU := wU_m 785 (by decide +kernel) (by decide +kernel)
theorem m_786 : (.methodLink "ConeRoundsLaw" 47 ⟨"ConeRoundsModel", "licence", "(II)I"⟩ : Cond) ∈ wU := wU_m 786 (by decide +kernel) (by decide +kernel)
theorem m_787 : (.instanceMethod ⟨"ConeRoundsModel", "licence", "(II)I"⟩ : Cond) ∈ wU := wU_m 787 (by decide +kernel) (by decide +kernel)
theorem m_788 : (.selects "ConeRoundsModel" ⟨"ConeRoundsModel", "licence", "(II)I"⟩ ⟨"ConeRoundsModel", "licence", "(II)I"⟩ : Cond) ∈ wU := wU_m 788 (by decide +kernel) (by decide +kernel)
theorem m_789 : (.code ⟨"ConeRoundsModel", "licence", "(II)I"⟩ prog_11_method_16_code 4 (some .int) : Cond) ∈ wU := wU_m 789 (by decide +kernel) (by decide +kernel)
theorem m_790 : (.methodLink "ConeRoundsLaw" 51 ⟨"ConeRoundsModel", "law", "(III)I"⟩ : Cond) ∈ wU := wU_m 790 (by decide +kernel) (by decide +kernel)
theorem m_791 : (.instanceMethod ⟨"ConeRoundsModel", "law", "(III)I"⟩ : Cond) ∈ wU := wU_m 791 (by decide +kernel) (by decide +kernel)
theorem m_792 : (.selects "ConeRoundsModel" ⟨"ConeRoundsModel", "law", "(III)I"⟩ ⟨"ConeRoundsModel", "law", "(III)I"⟩ : Cond) ∈ wU := wU_m 792 (by decide +kernel) (by decide +kernel)
theorem m_793 : (.code ⟨"ConeRoundsModel", "law", "(III)I"⟩ prog_11_method_17_code 4 (some .int) : Cond) ∈ wU := wU_m 793 (by decide +kernel) (by decide +kernel)
theorem m_794 : (.methodLink "ConeRoundsLaw" 55 ⟨"ConeRoundsModel", "may", "(III)I"⟩ : Cond) ∈ wU := wU_m 794 (by decide +kernel) (by decide +kernel)
theorem m_795 : (.instanceMethod ⟨"ConeRoundsModel", "may", "(III)I"⟩ : Cond) ∈ wU := wU_m 795 (by decide +kernel) (by decide +kernel)
theorem m_796 : (.selects "ConeRoundsModel" ⟨"ConeRoundsModel", "may", "(III)I"⟩ ⟨"ConeRoundsModel", "may", "(III)I"⟩ : Cond) ∈ wU := wU_m 796 (by decide +kernel) (by decide +kernel)
theorem m_797 : (.code ⟨"ConeRoundsModel", "may", "(III)I"⟩ prog_11_method_21_code 4 (some .int) : Cond) ∈ wU := wU_m 797 (by decide +kernel) (by decide +kernel)
theorem m_798 : (.methodLink "ConeRoundsModel" 124 ⟨"ConeRoundsModel", "mayStand", "(III)Z"⟩ : Cond) ∈ wU := wU_m 798 (by decide +kernel) (by decide +kernel)
theorem m_800 : (.instanceMethod ⟨"ConeRoundsModel", "mayStand", "(III)Z"⟩ : Cond) ∈ wU := wU_m 800 (by decide +kernel) (by decide +kernel)
theorem m_801 : (.code ⟨"ConeRoundsModel", "mayStand", "(III)Z"⟩ prog_11_method_20_code 4 (some .boolean) : Cond) ∈ wU := wU_m 801 (by decide +kernel) (by decide +kernel)
theorem m_802 : (.methodLink "ConeRoundsModel" 117 ⟨"ConeRoundsModel", "isLicensed", "(II)Z"⟩ : Cond) ∈ wU := wU_m 802 (by decide +kernel) (by decide +kernel)
theorem m_804 : (.instanceMethod ⟨"ConeRoundsModel", "isLicensed", "(II)Z"⟩ : Cond) ∈ wU := wU_m 804 (by decide +kernel) (by decide +kernel)
theorem m_805 : (.code ⟨"ConeRoundsModel", "isLicensed", "(II)Z"⟩ prog_11_method_18_code 3 (some .boolean) : Cond) ∈ wU := wU_m 805 (by decide +kernel) (by decide +kernel)
theorem m_806 : (.methodLink "ConeRoundsModel" 121 ⟨"ConeRoundsModel", "isBarred", "(II)Z"⟩ : Cond) ∈ wU := wU_m 806 (by decide +kernel) (by decide +kernel)
theorem m_808 : (.instanceMethod ⟨"ConeRoundsModel", "isBarred", "(II)Z"⟩ : Cond) ∈ wU := wU_m 808 (by decide +kernel) (by decide +kernel)
theorem m_809 : (.code ⟨"ConeRoundsModel", "isBarred", "(II)Z"⟩ prog_11_method_19_code 3 (some .boolean) : Cond) ∈ wU := wU_m 809 (by decide +kernel) (by decide +kernel)
theorem m_810 : (.methodLink "ConeRoundsLaw" 59 ⟨"ConeRoundsModel", "worth", "(II)I"⟩ : Cond) ∈ wU := wU_m 810 (by decide +kernel) (by decide +kernel)
theorem m_811 : (.instanceMethod ⟨"ConeRoundsModel", "worth", "(II)I"⟩ : Cond) ∈ wU := wU_m 811 (by decide +kernel) (by decide +kernel)
theorem m_812 : (.selects "ConeRoundsModel" ⟨"ConeRoundsModel", "worth", "(II)I"⟩ ⟨"ConeRoundsModel", "worth", "(II)I"⟩ : Cond) ∈ wU := wU_m 812 (by decide +kernel) (by decide +kernel)
theorem m_813 : (.code ⟨"ConeRoundsModel", "worth", "(II)I"⟩ prog_11_method_23_code 3 (some .int) : Cond) ∈ wU := wU_m 813 (by decide +kernel) (by decide +kernel)
theorem m_814 : (.methodLink "ConeRoundsModel" 127 ⟨"ConeRoundsModel", "worthOf", "(II)I"⟩ : Cond) ∈ wU := wU_m 814 (by decide +kernel) (by decide +kernel)
theorem m_816 : (.instanceMethod ⟨"ConeRoundsModel", "worthOf", "(II)I"⟩ : Cond) ∈ wU := wU_m 816 (by decide +kernel) (by decide +kernel)
theorem m_817 : (.code ⟨"ConeRoundsModel", "worthOf", "(II)I"⟩ prog_11_method_22_code 3 (some .int) : Cond) ∈ wU := wU_m 817 (by decide +kernel) (by decide +kernel)
theorem m_818 : (.methodLink "ConeRoundsLaw" 63 ⟨"ConeRoundsModel", "plan", "(III)I"⟩ : Cond) ∈ wU := wU_m 818 (by decide +kernel) (by decide +kernel)
theorem m_819 : (.instanceMethod ⟨"ConeRoundsModel", "plan", "(III)I"⟩ : Cond) ∈ wU := wU_m 819 (by decide +kernel) (by decide +kernel)
theorem m_820 : (.selects "ConeRoundsModel" ⟨"ConeRoundsModel", "plan", "(III)I"⟩ ⟨"ConeRoundsModel", "plan", "(III)I"⟩ : Cond) ∈ wU := wU_m 820 (by decide +kernel) (by decide +kernel)
theorem m_821 : (.code ⟨"ConeRoundsModel", "plan", "(III)I"⟩ prog_11_method_29_code 5 (some .int) : Cond) ∈ wU := wU_m 821 (by decide +kernel) (by decide +kernel)
theorem m_822 : (.methodLink "ConeRoundsModel" 155 ⟨"ConeRoundsModel", "whyNot", "(III)I"⟩ : Cond) ∈ wU := wU_m 822 (by decide +kernel) (by decide +kernel)
theorem m_824 : (.instanceMethod ⟨"ConeRoundsModel", "whyNot", "(III)I"⟩ : Cond) ∈ wU := wU_m 824 (by decide +kernel) (by decide +kernel)
theorem m_825 : (.code ⟨"ConeRoundsModel", "whyNot", "(III)I"⟩ prog_11_method_28_code 4 (some .int) : Cond) ∈ wU := wU_m 825 (by decide +kernel) (by decide +kernel)
theorem m_826 : (.methodLink "ConeRoundsModel" 152 ⟨"ConeRoundsModel", "isAt", "(I)Z"⟩ : Cond) ∈ wU := wU_m 826 (by decide +kernel) (by decide +kernel)
theorem m_828 : (.instanceMethod ⟨"ConeRoundsModel", "isAt", "(I)Z"⟩ : Cond) ∈ wU := wU_m 828 (by decide +kernel) (by decide +kernel)
theorem m_829 : (.code ⟨"ConeRoundsModel", "isAt", "(I)Z"⟩ prog_11_method_8_code 2 (some .boolean) : Cond) ∈ wU := wU_m 829 (by decide +kernel) (by decide +kernel)
theorem m_830 : (.methodLink "ConeRoundsModel" 158 ⟨"ConeRoundsModel", "findPlan", "(III)V"⟩ : Cond) ∈ wU := wU_m 830 (by decide +kernel) (by decide +kernel)
theorem m_832 : (.instanceMethod ⟨"ConeRoundsModel", "findPlan", "(III)V"⟩ : Cond) ∈ wU := wU_m 832 (by decide +kernel) (by decide +kernel)
theorem m_833 : (.code ⟨"ConeRoundsModel", "findPlan", "(III)V"⟩ prog_11_method_27_code 8 none : Cond) ∈ wU := wU_m 833 (by decide +kernel) (by decide +kernel)
theorem m_834 : (.methodLink "ConeRoundsModel" 140 ⟨"ConeRoundsModel", "sells", "(II)V"⟩ : Cond) ∈ wU := wU_m 834 (by decide +kernel) (by decide +kernel)
theorem m_836 : (.instanceMethod ⟨"ConeRoundsModel", "sells", "(II)V"⟩ : Cond) ∈ wU := wU_m 836 (by decide +kernel) (by decide +kernel)
theorem m_837 : (.code ⟨"ConeRoundsModel", "sells", "(II)V"⟩ prog_11_method_25_code 9 none : Cond) ∈ wU := wU_m 837 (by decide +kernel) (by decide +kernel)
theorem m_838 : (.methodLink "ConeRoundsModel" 144 ⟨"ConeRoundsModel", "note", "(I)V"⟩ : Cond) ∈ wU := wU_m 838 (by decide +kernel) (by decide +kernel)
theorem m_840 : (.instanceMethod ⟨"ConeRoundsModel", "note", "(I)V"⟩ : Cond) ∈ wU := wU_m 840 (by decide +kernel) (by decide +kernel)
theorem m_841 : (.code ⟨"ConeRoundsModel", "note", "(I)V"⟩ prog_11_method_26_code 3 none : Cond) ∈ wU := wU_m 841 (by decide +kernel) (by decide +kernel)
theorem m_842 : (.methodLink "ConeRoundsModel" 148 ⟨"ConeRoundsModel", "later", "(III)I"⟩ : Cond) ∈ wU := wU_m 842 (by decide +kernel) (by decide +kernel)
theorem m_844 : (.instanceMethod ⟨"ConeRoundsModel", "later", "(III)I"⟩ : Cond) ∈ wU := wU_m 844 (by decide +kernel) (by decide +kernel)
theorem m_845 : (.code ⟨"ConeRoundsModel", "later", "(III)I"⟩ prog_11_method_24_code 4 (some .int) : Cond) ∈ wU := wU_m 845 (by decide +kernel) (by decide +kernel)
theorem m_846 : (.methodLink "ConeRoundsLaw" 68 ⟨"ConeRoundsModel", "stop", "(IIII)I"⟩ : Cond) ∈ wU := wU_m 846 (by decide +kernel) (by decide +kernel)
theorem m_847 : (.instanceMethod ⟨"ConeRoundsModel", "stop", "(IIII)I"⟩ : Cond) ∈ wU := wU_m 847 (by decide +kernel) (by decide +kernel)
theorem m_848 : (.selects "ConeRoundsModel" ⟨"ConeRoundsModel", "stop", "(IIII)I"⟩ ⟨"ConeRoundsModel", "stop", "(IIII)I"⟩ : Cond) ∈ wU := wU_m 848 (by decide +kernel) (by decide +kernel)
theorem m_849 : (.code ⟨"ConeRoundsModel", "stop", "(IIII)I"⟩ prog_11_method_30_code 6 (some .int) : Cond) ∈ wU := wU_m 849 (by decide +kernel) (by decide +kernel)
theorem m_850 : (.methodLink "ConeRoundsLaw" 72 ⟨"ConeRoundsModel", "left", "(III)I"⟩ : Cond) ∈ wU := wU_m 850 (by decide +kernel) (by decide +kernel)
theorem m_851 : (.instanceMethod ⟨"ConeRoundsModel", "left", "(III)I"⟩ : Cond) ∈ wU := wU_m 851 (by decide +kernel) (by decide +kernel)
theorem m_852 : (.selects "ConeRoundsModel" ⟨"ConeRoundsModel", "left", "(III)I"⟩ ⟨"ConeRoundsModel", "left", "(III)I"⟩ : Cond) ∈ wU := wU_m 852 (by decide +kernel) (by decide +kernel)
theorem m_853 : (.code ⟨"ConeRoundsModel", "left", "(III)I"⟩ prog_11_method_31_code 5 (some .int) : Cond) ∈ wU := wU_m 853 (by decide +kernel) (by decide +kernel)
theorem m_854 : (.methodLink "ConeRoundsLaw" 76 ⟨"ConeRoundsModel", "stand", "(III)I"⟩ : Cond) ∈ wU := wU_m 854 (by decide +kernel) (by decide +kernel)
theorem m_855 : (.instanceMethod ⟨"ConeRoundsModel", "stand", "(III)I"⟩ : Cond) ∈ wU := wU_m 855 (by decide +kernel) (by decide +kernel)
theorem m_856 : (.selects "ConeRoundsModel" ⟨"ConeRoundsModel", "stand", "(III)I"⟩ ⟨"ConeRoundsModel", "stand", "(III)I"⟩ : Cond) ∈ wU := wU_m 856 (by decide +kernel) (by decide +kernel)
theorem m_857 : (.code ⟨"ConeRoundsModel", "stand", "(III)I"⟩ prog_11_method_33_code 5 (some .int) : Cond) ∈ wU := wU_m 857 (by decide +kernel) (by decide +kernel)
theorem m_858 : (.methodLink "ConeRoundsModel" 165 ⟨"ConeRoundsModel", "ahead", "(II)I"⟩ : Cond) ∈ wU := wU_m 858 (by decide +kernel) (by decide +kernel)
theorem m_860 : (.instanceMethod ⟨"ConeRoundsModel", "ahead", "(II)I"⟩ : Cond) ∈ wU := wU_m 860 (by decide +kernel) (by decide +kernel)
theorem m_861 : (.code ⟨"ConeRoundsModel", "ahead", "(II)I"⟩ prog_11_method_32_code 4 (some .int) : Cond) ∈ wU := wU_m 861 (by decide +kernel) (by decide +kernel)
theorem m_862 : (.methodLink "ConeRoundsLaw" 80 ⟨"ConeRoundsModel", "wrong", "(I)I"⟩ : Cond) ∈ wU := wU_m 862 (by decide +kernel) (by decide +kernel)
theorem m_863 : (.instanceMethod ⟨"ConeRoundsModel", "wrong", "(I)I"⟩ : Cond) ∈ wU := wU_m 863 (by decide +kernel) (by decide +kernel)
theorem m_864 : (.selects "ConeRoundsModel" ⟨"ConeRoundsModel", "wrong", "(I)I"⟩ ⟨"ConeRoundsModel", "wrong", "(I)I"⟩ : Cond) ∈ wU := wU_m 864 (by decide +kernel) (by decide +kernel)
theorem m_865 : (.code ⟨"ConeRoundsModel", "wrong", "(I)I"⟩ prog_11_method_35_code 2 (some .int) : Cond) ∈ wU := wU_m 865 (by decide +kernel) (by decide +kernel)
theorem m_866 : (.methodLink "ConeRoundsModel" 168 ⟨"ConeRoundsModel", "wrongOf", "(I)I"⟩ : Cond) ∈ wU := wU_m 866 (by decide +kernel) (by decide +kernel)
theorem m_868 : (.instanceMethod ⟨"ConeRoundsModel", "wrongOf", "(I)I"⟩ : Cond) ∈ wU := wU_m 868 (by decide +kernel) (by decide +kernel)
theorem m_869 : (.code ⟨"ConeRoundsModel", "wrongOf", "(I)I"⟩ prog_11_method_34_code 6 (some .int) : Cond) ∈ wU := wU_m 869 (by decide +kernel) (by decide +kernel)
theorem m_870 : (.methodLink "ConeRoundsLaw" 85 ⟨"ConeRoundsModel", "clear", "()I"⟩ : Cond) ∈ wU := wU_m 870 (by decide +kernel) (by decide +kernel)
theorem m_871 : (.instanceMethod ⟨"ConeRoundsModel", "clear", "()I"⟩ : Cond) ∈ wU := wU_m 871 (by decide +kernel) (by decide +kernel)
theorem m_872 : (.selects "ConeRoundsModel" ⟨"ConeRoundsModel", "clear", "()I"⟩ ⟨"ConeRoundsModel", "clear", "()I"⟩ : Cond) ∈ wU := wU_m 872 (by decide +kernel) (by decide +kernel)
theorem m_873 : (.code ⟨"ConeRoundsModel", "clear", "()I"⟩ prog_11_method_36_code 3 (some .int) : Cond) ∈ wU := wU_m 873 (by decide +kernel) (by decide +kernel)
theorem m_874 : (.methodLink "ConeRoundsLaw" 89 ⟨"ConeRoundsModel", "holder", "(I)I"⟩ : Cond) ∈ wU := wU_m 874 (by decide +kernel) (by decide +kernel)
theorem m_875 : (.instanceMethod ⟨"ConeRoundsModel", "holder", "(I)I"⟩ : Cond) ∈ wU := wU_m 875 (by decide +kernel) (by decide +kernel)
theorem m_876 : (.selects "ConeRoundsModel" ⟨"ConeRoundsModel", "holder", "(I)I"⟩ ⟨"ConeRoundsModel", "holder", "(I)I"⟩ : Cond) ∈ wU := wU_m 876 (by decide +kernel) (by decide +kernel)
theorem m_877 : (.code ⟨"ConeRoundsModel", "holder", "(I)I"⟩ prog_11_method_38_code 3 (some .int) : Cond) ∈ wU := wU_m 877 (by decide +kernel) (by decide +kernel)
theorem m_878 : (.methodLink "ConeRoundsModel" 171 ⟨"ConeRoundsModel", "holderOf", "(I)I"⟩ : Cond) ∈ wU := wU_m 878 (by decide +kernel) (by decide +kernel)
theorem m_880 : (.instanceMethod ⟨"ConeRoundsModel", "holderOf", "(I)I"⟩ : Cond) ∈ wU := wU_m 880 (by decide +kernel) (by decide +kernel)
theorem m_881 : (.code ⟨"ConeRoundsModel", "holderOf", "(I)I"⟩ prog_11_method_37_code 7 (some .int) : Cond) ∈ wU := wU_m 881 (by decide +kernel) (by decide +kernel)
theorem m_882 : (.methodLink "ConeRoundsLaw" 93 ⟨"ConeRoundsModel", "gets", "(IIII)I"⟩ : Cond) ∈ wU := wU_m 882 (by decide +kernel) (by decide +kernel)
theorem m_883 : (.instanceMethod ⟨"ConeRoundsModel", "gets", "(IIII)I"⟩ : Cond) ∈ wU := wU_m 883 (by decide +kernel) (by decide +kernel)
theorem m_884 : (.selects "ConeRoundsModel" ⟨"ConeRoundsModel", "gets", "(IIII)I"⟩ ⟨"ConeRoundsModel", "gets", "(IIII)I"⟩ : Cond) ∈ wU := wU_m 884 (by decide +kernel) (by decide +kernel)
theorem m_885 : (.code ⟨"ConeRoundsModel", "gets", "(IIII)I"⟩ prog_11_method_40_code 5 (some .int) : Cond) ∈ wU := wU_m 885 (by decide +kernel) (by decide +kernel)
theorem m_886 : (.methodLink "ConeRoundsModel" 174 ⟨"ConeRoundsModel", "getsOf", "(IIIII)I"⟩ : Cond) ∈ wU := wU_m 886 (by decide +kernel) (by decide +kernel)
theorem m_888 : (.instanceMethod ⟨"ConeRoundsModel", "getsOf", "(IIIII)I"⟩ : Cond) ∈ wU := wU_m 888 (by decide +kernel) (by decide +kernel)
theorem m_889 : (.code ⟨"ConeRoundsModel", "getsOf", "(IIIII)I"⟩ prog_11_method_39_code 8 (some .int) : Cond) ∈ wU := wU_m 889 (by decide +kernel) (by decide +kernel)
theorem m_890 : (.methodLink "ConeRoundsLaw" 97 ⟨"ConeRoundsModel", "balance", "(IIII)I"⟩ : Cond) ∈ wU := wU_m 890 (by decide +kernel) (by decide +kernel)
theorem m_891 : (.instanceMethod ⟨"ConeRoundsModel", "balance", "(IIII)I"⟩ : Cond) ∈ wU := wU_m 891 (by decide +kernel) (by decide +kernel)
theorem m_892 : (.selects "ConeRoundsModel" ⟨"ConeRoundsModel", "balance", "(IIII)I"⟩ ⟨"ConeRoundsModel", "balance", "(IIII)I"⟩ : Cond) ∈ wU := wU_m 892 (by decide +kernel) (by decide +kernel)
theorem m_893 : (.code ⟨"ConeRoundsModel", "balance", "(IIII)I"⟩ prog_11_method_43_code 8 (some .int) : Cond) ∈ wU := wU_m 893 (by decide +kernel) (by decide +kernel)
theorem m_894 : (.methodLink "ConeRoundsModel" 178 ⟨"ConeRoundsModel", "areTwo", "(III)Z"⟩ : Cond) ∈ wU := wU_m 894 (by decide +kernel) (by decide +kernel)
theorem m_896 : (.instanceMethod ⟨"ConeRoundsModel", "areTwo", "(III)Z"⟩ : Cond) ∈ wU := wU_m 896 (by decide +kernel) (by decide +kernel)
theorem m_897 : (.code ⟨"ConeRoundsModel", "areTwo", "(III)Z"⟩ prog_11_method_42_code 4 (some .boolean) : Cond) ∈ wU := wU_m 897 (by decide +kernel) (by decide +kernel)
theorem m_898 : (.methodLink "ConeRoundsModel" 181 ⟨"ConeRoundsModel", "isBalance", "(IIIII)Z"⟩ : Cond) ∈ wU := wU_m 898 (by decide +kernel) (by decide +kernel)
theorem m_900 : (.instanceMethod ⟨"ConeRoundsModel", "isBalance", "(IIIII)Z"⟩ : Cond) ∈ wU := wU_m 900 (by decide +kernel) (by decide +kernel)
theorem m_901 : (.code ⟨"ConeRoundsModel", "isBalance", "(IIIII)Z"⟩ prog_11_method_41_code 7 (some .boolean) : Cond) ∈ wU := wU_m 901 (by decide +kernel) (by decide +kernel)
theorem m_902 : (.methodLink "ConeRoundsLaw" 101 ⟨"ConeRoundsModel", "together", "(III)I"⟩ : Cond) ∈ wU := wU_m 902 (by decide +kernel) (by decide +kernel)
theorem m_903 : (.instanceMethod ⟨"ConeRoundsModel", "together", "(III)I"⟩ : Cond) ∈ wU := wU_m 903 (by decide +kernel) (by decide +kernel)
theorem m_904 : (.selects "ConeRoundsModel" ⟨"ConeRoundsModel", "together", "(III)I"⟩ ⟨"ConeRoundsModel", "together", "(III)I"⟩ : Cond) ∈ wU := wU_m 904 (by decide +kernel) (by decide +kernel)
theorem m_905 : (.code ⟨"ConeRoundsModel", "together", "(III)I"⟩ prog_11_method_44_code 9 (some .int) : Cond) ∈ wU := wU_m 905 (by decide +kernel) (by decide +kernel)
theorem m_906 : (.methodLink "ConeRoundsLaw" 105 ⟨"ConeRoundsModel", "credit", "(I)I"⟩ : Cond) ∈ wU := wU_m 906 (by decide +kernel) (by decide +kernel)
theorem m_907 : (.instanceMethod ⟨"ConeRoundsModel", "credit", "(I)I"⟩ : Cond) ∈ wU := wU_m 907 (by decide +kernel) (by decide +kernel)
theorem m_908 : (.selects "ConeRoundsModel" ⟨"ConeRoundsModel", "credit", "(I)I"⟩ ⟨"ConeRoundsModel", "credit", "(I)I"⟩ : Cond) ∈ wU := wU_m 908 (by decide +kernel) (by decide +kernel)
theorem m_909 : (.code ⟨"ConeRoundsModel", "credit", "(I)I"⟩ prog_11_method_45_code 3 (some .int) : Cond) ∈ wU := wU_m 909 (by decide +kernel) (by decide +kernel)
theorem m_910 : (.methodLink "ConeRoundsLaw" 109 ⟨"ConeRoundsModel", "bill", "(II)I"⟩ : Cond) ∈ wU := wU_m 910 (by decide +kernel) (by decide +kernel)
theorem m_911 : (.instanceMethod ⟨"ConeRoundsModel", "bill", "(II)I"⟩ : Cond) ∈ wU := wU_m 911 (by decide +kernel) (by decide +kernel)
theorem m_912 : (.selects "ConeRoundsModel" ⟨"ConeRoundsModel", "bill", "(II)I"⟩ ⟨"ConeRoundsModel", "bill", "(II)I"⟩ : Cond) ∈ wU := wU_m 912 (by decide +kernel) (by decide +kernel)
theorem m_913 : (.code ⟨"ConeRoundsModel", "bill", "(II)I"⟩ prog_11_method_46_code 3 (some .int) : Cond) ∈ wU := wU_m 913 (by decide +kernel) (by decide +kernel)
theorem m_914 : (.methodLink "ConeRoundsLaw" 113 ⟨"ConeRoundsModel", "pay", "(II)I"⟩ : Cond) ∈ wU := wU_m 914 (by decide +kernel) (by decide +kernel)
theorem m_915 : (.instanceMethod ⟨"ConeRoundsModel", "pay", "(II)I"⟩ : Cond) ∈ wU := wU_m 915 (by decide +kernel) (by decide +kernel)
theorem m_916 : (.selects "ConeRoundsModel" ⟨"ConeRoundsModel", "pay", "(II)I"⟩ ⟨"ConeRoundsModel", "pay", "(II)I"⟩ : Cond) ∈ wU := wU_m 916 (by decide +kernel) (by decide +kernel)
theorem m_917 : (.code ⟨"ConeRoundsModel", "pay", "(II)I"⟩ prog_11_method_48_code 3 (some .int) : Cond) ∈ wU := wU_m 917 (by decide +kernel) (by decide +kernel)
theorem m_918 : (.methodLink "ConeRoundsModel" 188 ⟨"ConeRoundsModel", "isBill", "(I)Z"⟩ : Cond) ∈ wU := wU_m 918 (by decide +kernel) (by decide +kernel)
theorem m_920 : (.instanceMethod ⟨"ConeRoundsModel", "isBill", "(I)Z"⟩ : Cond) ∈ wU := wU_m 920 (by decide +kernel) (by decide +kernel)
theorem m_921 : (.code ⟨"ConeRoundsModel", "isBill", "(I)Z"⟩ prog_11_method_47_code 2 (some .boolean) : Cond) ∈ wU := wU_m 921 (by decide +kernel) (by decide +kernel)
theorem m_922 : (.methodLink "ConeRoundsLaw" 117 ⟨"ConeRoundsModel", "owed", "(II)I"⟩ : Cond) ∈ wU := wU_m 922 (by decide +kernel) (by decide +kernel)
theorem m_923 : (.instanceMethod ⟨"ConeRoundsModel", "owed", "(II)I"⟩ : Cond) ∈ wU := wU_m 923 (by decide +kernel) (by decide +kernel)
theorem m_924 : (.selects "ConeRoundsModel" ⟨"ConeRoundsModel", "owed", "(II)I"⟩ ⟨"ConeRoundsModel", "owed", "(II)I"⟩ : Cond) ∈ wU := wU_m 924 (by decide +kernel) (by decide +kernel)
theorem m_925 : (.code ⟨"ConeRoundsModel", "owed", "(II)I"⟩ prog_11_method_50_code 5 (some .int) : Cond) ∈ wU := wU_m 925 (by decide +kernel) (by decide +kernel)
theorem m_926 : (.methodLink "ConeRoundsModel" 191 ⟨"ConeRoundsModel", "owedOf", "(II)I"⟩ : Cond) ∈ wU := wU_m 926 (by decide +kernel) (by decide +kernel)
theorem m_928 : (.instanceMethod ⟨"ConeRoundsModel", "owedOf", "(II)I"⟩ : Cond) ∈ wU := wU_m 928 (by decide +kernel) (by decide +kernel)
theorem m_929 : (.code ⟨"ConeRoundsModel", "owedOf", "(II)I"⟩ prog_11_method_49_code 4 (some .int) : Cond) ∈ wU := wU_m 929 (by decide +kernel) (by decide +kernel)
theorem m_930 : (.methodLink "ConeRoundsLaw" 121 ⟨"ConeRoundsModel", "tell", "(I)I"⟩ : Cond) ∈ wU := wU_m 930 (by decide +kernel) (by decide +kernel)
theorem m_931 : (.instanceMethod ⟨"ConeRoundsModel", "tell", "(I)I"⟩ : Cond) ∈ wU := wU_m 931 (by decide +kernel) (by decide +kernel)
theorem m_932 : (.selects "ConeRoundsModel" ⟨"ConeRoundsModel", "tell", "(I)I"⟩ ⟨"ConeRoundsModel", "tell", "(I)I"⟩ : Cond) ∈ wU := wU_m 932 (by decide +kernel) (by decide +kernel)
theorem m_933 : (.code ⟨"ConeRoundsModel", "tell", "(I)I"⟩ prog_11_method_51_code 2 (some .int) : Cond) ∈ wU := wU_m 933 (by decide +kernel) (by decide +kernel)
theorem m_934 : (.methodLink "ConeRoundsLaw" 125 ⟨"ConeRoundsModel", "check", "(I)I"⟩ : Cond) ∈ wU := wU_m 934 (by decide +kernel) (by decide +kernel)
theorem m_935 : (.instanceMethod ⟨"ConeRoundsModel", "check", "(I)I"⟩ : Cond) ∈ wU := wU_m 935 (by decide +kernel) (by decide +kernel)
theorem m_936 : (.selects "ConeRoundsModel" ⟨"ConeRoundsModel", "check", "(I)I"⟩ ⟨"ConeRoundsModel", "check", "(I)I"⟩ : Cond) ∈ wU := wU_m 936 (by decide +kernel) (by decide +kernel)
theorem m_937 : (.code ⟨"ConeRoundsModel", "check", "(I)I"⟩ prog_11_method_52_code 4 (some .int) : Cond) ∈ wU := wU_m 937 (by decide +kernel) (by decide +kernel)
theorem m_938 : (.methodLink "ConeRoundsLaw" 129 ⟨"ConeRoundsModel", "count", "(I)I"⟩ : Cond) ∈ wU := wU_m 938 (by decide +kernel) (by decide +kernel)
theorem m_939 : (.instanceMethod ⟨"ConeRoundsModel", "count", "(I)I"⟩ : Cond) ∈ wU := wU_m 939 (by decide +kernel) (by decide +kernel)
theorem m_940 : (.selects "ConeRoundsModel" ⟨"ConeRoundsModel", "count", "(I)I"⟩ ⟨"ConeRoundsModel", "count", "(I)I"⟩ : Cond) ∈ wU := wU_m 940 (by decide +kernel) (by decide +kernel)
theorem m_941 : (.code ⟨"ConeRoundsModel", "count", "(I)I"⟩ prog_11_method_53_code 4 (some .int) : Cond) ∈ wU := wU_m 941 (by decide +kernel) (by decide +kernel)
theorem m_942 : (.methodLink "ConeRoundsLaw" 133 ⟨"ConeRoundsModel", "found", "(I)I"⟩ : Cond) ∈ wU := wU_m 942 (by decide +kernel) (by decide +kernel)
theorem m_943 : (.instanceMethod ⟨"ConeRoundsModel", "found", "(I)I"⟩ : Cond) ∈ wU := wU_m 943 (by decide +kernel) (by decide +kernel)
theorem m_944 : (.selects "ConeRoundsModel" ⟨"ConeRoundsModel", "found", "(I)I"⟩ ⟨"ConeRoundsModel", "found", "(I)I"⟩ : Cond) ∈ wU := wU_m 944 (by decide +kernel) (by decide +kernel)
theorem m_945 : (.code ⟨"ConeRoundsModel", "found", "(I)I"⟩ prog_11_method_54_code 2 (some .int) : Cond) ∈ wU := wU_m 945 (by decide +kernel) (by decide +kernel)
end
section
def TX0 : u_T := fun k => match k with
  | 0 => ("ConeRounds$Van", "stock", "I", false)
  | _ => ("ConeRounds$Van", "licence", "I", false)
def tyX0 : Nat → FieldType := fun k => match k with
  | 0 => .int
  | _ => .int
theorem nmX0 : ∀ a, a < 2 → ∀ b, b < 2 → a ≠ b → (TX0 a).2.1 ≠ (TX0 b).2.1 := by decide +kernel
theorem tyX0_ok : ∀ k, k < 2 → parseFieldDescriptor (TX0 k).2.2.1 = some (tyX0 k) := by decide +kernel
def TX1 : u_T := fun k => match k with
  | 0 => ("ConeRounds$Bills", "coins", "[I", true)
  | 1 => ("ConeRounds$Bills", "days", "[I", true)
  | 2 => ("ConeRounds$Bills", "dues", "[I", true)
  | 3 => ("ConeRounds$Bills", "size", "I", false)
  | _ => ("ConeRounds$Bills", "credit", "I", false)
def tyX1 : Nat → FieldType := fun k => match k with
  | 0 => .array .int
  | 1 => .array .int
  | 2 => .array .int
  | 3 => .int
  | _ => .int
theorem nmX1 : ∀ a, a < 5 → ∀ b, b < 5 → a ≠ b → (TX1 a).2.1 ≠ (TX1 b).2.1 := by decide +kernel
theorem tyX1_ok : ∀ k, k < 5 → parseFieldDescriptor (TX1 k).2.2.1 = some (tyX1 k) := by decide +kernel
def TX2 : u_T := fun k => match k with
  | 0 => ("ConeRounds$Van", "stock", "I", false)
  | _ => ("ConeRounds$Van", "licence", "I", false)
def tyX2 : Nat → FieldType := fun k => match k with
  | 0 => .int
  | _ => .int
theorem nmX2 : ∀ a, a < 2 → ∀ b, b < 2 → a ≠ b → (TX2 a).2.1 ≠ (TX2 b).2.1 := by decide +kernel
theorem tyX2_ok : ∀ k, k < 2 → parseFieldDescriptor (TX2 k).2.2.1 = some (tyX2 k) := by decide +kernel
def TX3 : u_T := fun k => match k with
  | 0 => ("ConeRounds$Law", "from", "I", false)
  | 1 => ("ConeRounds$Law", "to", "I", false)
  | _ => ("ConeRounds$Law", "seconds", "I", false)
def tyX3 : Nat → FieldType := fun k => match k with
  | 0 => .int
  | 1 => .int
  | _ => .int
theorem nmX3 : ∀ a, a < 3 → ∀ b, b < 3 → a ≠ b → (TX3 a).2.1 ≠ (TX3 b).2.1 := by decide +kernel
theorem tyX3_ok : ∀ k, k < 3 → parseFieldDescriptor (TX3 k).2.2.1 = some (tyX3 k) := by decide +kernel
def TX4 : u_T := fun k => match k with
  | 0 => ("ConeRounds$Stands", "vans", "[I", true)
  | 1 => ("ConeRounds$Stands", "streets", "[I", true)
  | 2 => ("ConeRounds$Stands", "hours", "[I", true)
  | 3 => ("ConeRounds$Stands", "chimes", "[I", true)
  | _ => ("ConeRounds$Stands", "size", "I", false)
def tyX4 : Nat → FieldType := fun k => match k with
  | 0 => .array .int
  | 1 => .array .int
  | 2 => .array .int
  | 3 => .array .int
  | _ => .int
theorem nmX4 : ∀ a, a < 5 → ∀ b, b < 5 → a ≠ b → (TX4 a).2.1 ≠ (TX4 b).2.1 := by decide +kernel
theorem tyX4_ok : ∀ k, k < 5 → parseFieldDescriptor (TX4 k).2.2.1 = some (tyX4 k) := by decide +kernel
def TX5 : u_T := fun k => match k with
  | 0 => ("ConeRounds$Town", "schools", "[Z", true)
  | 1 => ("ConeRounds$Town", "ways", "[I", true)
  | 2 => ("ConeRounds$Town", "wishes", "[I", true)
  | 3 => ("ConeRounds$Town", "size", "I", false)
  | _ => ("ConeRounds$Town", "heat", "I", false)
def tyX5 : Nat → FieldType := fun k => match k with
  | 0 => .array .boolean
  | 1 => .array .int
  | 2 => .array .int
  | 3 => .int
  | _ => .int
theorem nmX5 : ∀ a, a < 5 → ∀ b, b < 5 → a ≠ b → (TX5 a).2.1 ≠ (TX5 b).2.1 := by decide +kernel
theorem tyX5_ok : ∀ k, k < 5 → parseFieldDescriptor (TX5 k).2.2.1 = some (tyX5 k) := by decide +kernel
def TX6 : u_T := fun k => match k with
  | 0 => ("ConeRounds$Trail", "streets", "[I", true)
  | 1 => ("ConeRounds$Trail", "hours", "[I", true)
  | 2 => ("ConeRounds$Trail", "size", "I", false)
  | 3 => ("ConeRounds$Trail", "stock", "I", false)
  | _ => ("ConeRounds$Trail", "sold", "I", false)
def tyX6 : Nat → FieldType := fun k => match k with
  | 0 => .array .int
  | 1 => .array .int
  | 2 => .int
  | 3 => .int
  | _ => .int
theorem nmX6 : ∀ a, a < 5 → ∀ b, b < 5 → a ≠ b → (TX6 a).2.1 ≠ (TX6 b).2.1 := by decide +kernel
theorem tyX6_ok : ∀ k, k < 5 → parseFieldDescriptor (TX6 k).2.2.1 = some (tyX6 k) := by decide +kernel
def TX7 : u_T := fun k => match k with
  | 0 => ("ConeRounds$Van", "stock", "I", false)
  | _ => ("ConeRounds$Van", "licence", "I", false)
def tyX7 : Nat → FieldType := fun k => match k with
  | 0 => .int
  | _ => .int
theorem nmX7 : ∀ a, a < 2 → ∀ b, b < 2 → a ≠ b → (TX7 a).2.1 ≠ (TX7 b).2.1 := by decide +kernel
theorem tyX7_ok : ∀ k, k < 2 → parseFieldDescriptor (TX7 k).2.2.1 = some (tyX7 k) := by decide +kernel
def TX8 : u_T := fun k => match k with
  | 0 => ("ConeRounds", "findings", "[I", true)
  | 1 => ("ConeRounds", "town", "LConeRounds$Town;", true)
  | 2 => ("ConeRounds", "rules", "LConeRounds$Law;", true)
  | 3 => ("ConeRounds", "vans", "[LConeRounds$Van;", true)
  | 4 => ("ConeRounds", "vanCount", "I", false)
  | 5 => ("ConeRounds", "trail", "LConeRounds$Trail;", true)
  | 6 => ("ConeRounds", "best", "LConeRounds$Trail;", true)
  | 7 => ("ConeRounds", "stands", "LConeRounds$Stands;", true)
  | 8 => ("ConeRounds", "bills", "LConeRounds$Bills;", true)
  | 9 => ("ConeRounds", "waiting", "[I", true)
  | _ => ("ConeRounds", "waitingCount", "I", false)
def tyX8 : Nat → FieldType := fun k => match k with
  | 0 => .array .int
  | 1 => .object "ConeRounds$Town"
  | 2 => .object "ConeRounds$Law"
  | 3 => .array (.object "ConeRounds$Van")
  | 4 => .int
  | 5 => .object "ConeRounds$Trail"
  | 6 => .object "ConeRounds$Trail"
  | 7 => .object "ConeRounds$Stands"
  | 8 => .object "ConeRounds$Bills"
  | 9 => .array .int
  | _ => .int
theorem nmX8 : ∀ a, a < 11 → ∀ b, b < 11 → a ≠ b → (TX8 a).2.1 ≠ (TX8 b).2.1 := by decide +kernel
theorem tyX8_ok : ∀ k, k < 11 → parseFieldDescriptor (TX8 k).2.2.1 = some (tyX8 k) := by decide +kernel
def TX9 : u_T := fun k => match k with
  | 0 => ("ConeRoundsModel", "streets", "I", false)
  | 1 => ("ConeRoundsModel", "vans", "I", false)
  | 2 => ("ConeRoundsModel", "stands", "I", false)
  | 3 => ("ConeRoundsModel", "bills", "I", false)
  | 4 => ("ConeRoundsModel", "waiting", "I", false)
  | 5 => ("ConeRoundsModel", "heatNow", "I", false)
  | 6 => ("ConeRoundsModel", "barFrom", "I", false)
  | 7 => ("ConeRoundsModel", "barTo", "I", false)
  | 8 => ("ConeRoundsModel", "chimeMost", "I", false)
  | 9 => ("ConeRoundsModel", "creditNow", "I", false)
  | 10 => ("ConeRoundsModel", "school", "[I", true)
  | 11 => ("ConeRoundsModel", "ways", "[I", true)
  | 12 => ("ConeRoundsModel", "wishes", "[I", true)
  | 13 => ("ConeRoundsModel", "kind", "[I", true)
  | 14 => ("ConeRoundsModel", "stocks", "[I", true)
  | 15 => ("ConeRoundsModel", "licences", "[I", true)
  | 16 => ("ConeRoundsModel", "standVan", "[I", true)
  | 17 => ("ConeRoundsModel", "standStreet", "[I", true)
  | 18 => ("ConeRoundsModel", "standHour", "[I", true)
  | 19 => ("ConeRoundsModel", "standChime", "[I", true)
  | 20 => ("ConeRoundsModel", "left0", "[I", true)
  | 21 => ("ConeRoundsModel", "billDay", "[I", true)
  | 22 => ("ConeRoundsModel", "due", "[I", true)
  | 23 => ("ConeRoundsModel", "waits", "[I", true)
  | 24 => ("ConeRoundsModel", "counted", "[I", true)
  | 25 => ("ConeRoundsModel", "rowStreet", "[I", true)
  | 26 => ("ConeRoundsModel", "rowHour", "[I", true)
  | 27 => ("ConeRoundsModel", "sold", "[I", true)
  | 28 => ("ConeRoundsModel", "kept", "[I", true)
  | 29 => ("ConeRoundsModel", "tried", "[I", true)
  | 30 => ("ConeRoundsModel", "bestStreet", "[I", true)
  | 31 => ("ConeRoundsModel", "bestHour", "[I", true)
  | 32 => ("ConeRoundsModel", "bestMany", "I", false)
  | 33 => ("ConeRoundsModel", "bestSold", "I", false)
  | _ => ("ConeRoundsModel", "bestKept", "I", false)
def tyX9 : Nat → FieldType := fun k => match k with
  | 0 => .int
  | 1 => .int
  | 2 => .int
  | 3 => .int
  | 4 => .int
  | 5 => .int
  | 6 => .int
  | 7 => .int
  | 8 => .int
  | 9 => .int
  | 10 => .array .int
  | 11 => .array .int
  | 12 => .array .int
  | 13 => .array .int
  | 14 => .array .int
  | 15 => .array .int
  | 16 => .array .int
  | 17 => .array .int
  | 18 => .array .int
  | 19 => .array .int
  | 20 => .array .int
  | 21 => .array .int
  | 22 => .array .int
  | 23 => .array .int
  | 24 => .array .int
  | 25 => .array .int
  | 26 => .array .int
  | 27 => .array .int
  | 28 => .array .int
  | 29 => .array .int
  | 30 => .array .int
  | 31 => .array .int
  | 32 => .int
  | 33 => .int
  | _ => .int
theorem nmX9 : ∀ a, a < 35 → ∀ b, b < 35 → a ≠ b → (TX9 a).2.1 ≠ (TX9 b).2.1 := by decide +kernel
theorem tyX9_ok : ∀ k, k < 35 → parseFieldDescriptor (TX9 k).2.2.1 = some (tyX9 k) := by decide +kernel
abbrev vwC : List vw_C := [("ConeRounds$Bike", TX0, 2), ("ConeRounds$Bills", TX1, 5), ("ConeRounds$Cart", TX2, 2), ("ConeRounds$Law", TX3, 3), ("ConeRounds$Stands", TX4, 5), ("ConeRounds$Town", TX5, 5), ("ConeRounds$Trail", TX6, 5), ("ConeRounds$Van", TX7, 2), ("ConeRounds", TX8, 11), ("ConeRoundsModel", TX9, 35)]
theorem inU0 : ∀ w ∈ u_ws "ConeRounds$Bike" TX0 2, w ∈ wU := by
  intro w hw
  obtain ⟨k, hk, rfl⟩ := List.mem_map.mp hw
  have hk := List.mem_range.mp hk
  match k, hk with
  | 0, _ => exact m_302
  | 1, _ => exact m_304
  | k + 2, hk => exact absurd hk (by omega)
theorem inU1 : ∀ w ∈ u_ws "ConeRounds$Bills" TX1 5, w ∈ wU := by
  intro w hw
  obtain ⟨k, hk, rfl⟩ := List.mem_map.mp hw
  have hk := List.mem_range.mp hk
  match k, hk with
  | 0, _ => exact m_177
  | 1, _ => exact m_179
  | 2, _ => exact m_181
  | 3, _ => exact m_183
  | 4, _ => exact m_185
  | k + 5, hk => exact absurd hk (by omega)
theorem inU2 : ∀ w ∈ u_ws "ConeRounds$Cart" TX2 2, w ∈ wU := by
  intro w hw
  obtain ⟨k, hk, rfl⟩ := List.mem_map.mp hw
  have hk := List.mem_range.mp hk
  match k, hk with
  | 0, _ => exact m_313
  | 1, _ => exact m_314
  | k + 2, hk => exact absurd hk (by omega)
theorem inU3 : ∀ w ∈ u_ws "ConeRounds$Law" TX3 3, w ∈ wU := by
  intro w hw
  obtain ⟨k, hk, rfl⟩ := List.mem_map.mp hw
  have hk := List.mem_range.mp hk
  match k, hk with
  | 0, _ => exact m_100
  | 1, _ => exact m_102
  | 2, _ => exact m_104
  | k + 3, hk => exact absurd hk (by omega)
theorem inU4 : ∀ w ∈ u_ws "ConeRounds$Stands" TX4 5, w ∈ wU := by
  intro w hw
  obtain ⟨k, hk, rfl⟩ := List.mem_map.mp hw
  have hk := List.mem_range.mp hk
  match k, hk with
  | 0, _ => exact m_152
  | 1, _ => exact m_154
  | 2, _ => exact m_156
  | 3, _ => exact m_158
  | 4, _ => exact m_160
  | k + 5, hk => exact absurd hk (by omega)
theorem inU5 : ∀ w ∈ u_ws "ConeRounds$Town" TX5 5, w ∈ wU := by
  intro w hw
  obtain ⟨k, hk, rfl⟩ := List.mem_map.mp hw
  have hk := List.mem_range.mp hk
  match k, hk with
  | 0, _ => exact m_75
  | 1, _ => exact m_77
  | 2, _ => exact m_79
  | 3, _ => exact m_81
  | 4, _ => exact m_83
  | k + 5, hk => exact absurd hk (by omega)
theorem inU6 : ∀ w ∈ u_ws "ConeRounds$Trail" TX6 5, w ∈ wU := by
  intro w hw
  obtain ⟨k, hk, rfl⟩ := List.mem_map.mp hw
  have hk := List.mem_range.mp hk
  match k, hk with
  | 0, _ => exact m_125
  | 1, _ => exact m_127
  | 2, _ => exact m_129
  | 3, _ => exact m_131
  | 4, _ => exact m_133
  | k + 5, hk => exact absurd hk (by omega)
theorem inU7 : ∀ w ∈ u_ws "ConeRounds$Van" TX7 2, w ∈ wU := by
  intro w hw
  obtain ⟨k, hk, rfl⟩ := List.mem_map.mp hw
  have hk := List.mem_range.mp hk
  match k, hk with
  | 0, _ => exact m_318
  | 1, _ => exact m_319
  | k + 2, hk => exact absurd hk (by omega)
theorem inU8 : ∀ w ∈ u_ws "ConeRounds" TX8 11, w ∈ wU := by
  intro w hw
  obtain ⟨k, hk, rfl⟩ := List.mem_map.mp hw
  have hk := List.mem_range.mp hk
  match k, hk with
  | 0, _ => exact m_199
  | 1, _ => exact m_201
  | 2, _ => exact m_203
  | 3, _ => exact m_205
  | 4, _ => exact m_207
  | 5, _ => exact m_209
  | 6, _ => exact m_211
  | 7, _ => exact m_213
  | 8, _ => exact m_215
  | 9, _ => exact m_217
  | 10, _ => exact m_219
  | k + 11, hk => exact absurd hk (by omega)
theorem inU9 : ∀ w ∈ u_ws "ConeRoundsModel" TX9 35, w ∈ wU := by
  intro w hw
  obtain ⟨k, hk, rfl⟩ := List.mem_map.mp hw
  have hk := List.mem_range.mp hk
  match k, hk with
  | 0, _ => exact m_668
  | 1, _ => exact m_670
  | 2, _ => exact m_672
  | 3, _ => exact m_674
  | 4, _ => exact m_676
  | 5, _ => exact m_678
  | 6, _ => exact m_680
  | 7, _ => exact m_682
  | 8, _ => exact m_684
  | 9, _ => exact m_686
  | 10, _ => exact m_688
  | 11, _ => exact m_690
  | 12, _ => exact m_692
  | 13, _ => exact m_694
  | 14, _ => exact m_696
  | 15, _ => exact m_698
  | 16, _ => exact m_700
  | 17, _ => exact m_702
  | 18, _ => exact m_704
  | 19, _ => exact m_706
  | 20, _ => exact m_708
  | 21, _ => exact m_710
  | 22, _ => exact m_712
  | 23, _ => exact m_714
  | 24, _ => exact m_716
  | 25, _ => exact m_718
  | 26, _ => exact m_720
  | 27, _ => exact m_722
  | 28, _ => exact m_724
  | 29, _ => exact m_726
  | 30, _ => exact m_728
  | 31, _ => exact m_730
  | 32, _ => exact m_732
  | 33, _ => exact m_734
  | 34, _ => exact m_736
  | k + 35, hk => exact absurd hk (by omega)
abbrev ZT : Type := va_G × ClassId × ClassId × ClassId
abbrev hostC : String := "ConeRounds"
-- what the tables say beside wU's words: castings, nest mates' constructors, the array of vans
def KX (U : State) : Prop := (va_Nw (.castable "ConeRounds$Bike" "ConeRounds$Van") U ∧ va_Nw (.castable "ConeRounds$Cart" "ConeRounds$Van") U) ∧ (va_Nc "ConeRounds$Van" "ConeRounds$Bike" U ∧ va_Nc "ConeRounds$Cart" "ConeRounds$Bike" U ∧ va_Nc "ConeRounds$Van" "ConeRounds$Cart" U ∧ va_Nc "ConeRounds$Bike" "ConeRounds$Cart" U)
theorem KX.same {u U : State} (h : u.vm = U.vm) (k : KX u) : KX U := by
  obtain ⟨⟨a, b⟩, c, d, e, f⟩ := k
  have al : u.vm.Alike U.vm := by rw [h]; exact Vm.Alike.refl _
  exact ⟨⟨a.same rfl h, b.same rfl h⟩, c.moved al, d.moved al, e.moved al, f.moved al⟩
theorem KX.warm {s U : State} (hW : s.WarmedH U.vm) (k : KX s) : KX U := by
  obtain ⟨⟨a, b⟩, c, d, e, f⟩ := k
  exact ⟨⟨a.warmC hW, b.warmC hW⟩, c.moved hW.alike, d.moved hW.alike, e.moved hW.alike, f.moved hW.alike⟩
abbrev tysZ (Z : ZT) : List (ClassId × FieldType) := [(Z.2.1, .int), (Z.2.2.1, .boolean), (Z.2.2.2, .object "ConeRounds$Van")]
def KW (Z : ZT) (U : State) : Prop := va_K Z.1 vwC (tysZ Z) U ∧ KX U
theorem KW.same {Z : ZT} {u U : State} (h : u.vm = U.vm) (k : KW Z u) : KW Z U := ⟨va_K.moved (by rw [h]; exact Vm.Alike.refl _) k.1, k.2.same h⟩
theorem KW.warm {Z : ZT} {s U : State} (hW : s.WarmedH U.vm) (k : KW Z s) : KW Z U := ⟨va_K.moved hW.alike k.1, k.2.warm hW⟩
def EW (p : Program) (m : MethodId) (c : Code) (cc : ByteArray) (nL : Nat) (s : State) (args : Array Value) (own : String) (Z : ZT) : Prop := CallFix p m c cc nL s args wU own ∧ KW Z s
def GW (Z : ZT) (w : va_W) (A : Nat → Prop) (H0 H : Heap) (locs : List Loc) : Prop := va_P Z.1 vwC w H ∧ va_D A w ∧ va_S A H0 H locs ∧ ∀ q, H0.size ≤ q → A q
def PW (Z : ZT) (w : va_W) (sz : Nat) (av : List Value) : Array Value → State → Prop := va_Pc av (fun U => U.heap.size = sz ∧ KW Z U ∧ va_P Z.1 vwC w U.heap ∧ va_D (fun _ => True) w)
def QA (Z : ZT) (A : Nat → Prop) (post : Option Value → va_W → Prop) : Array Value → State → Outcome → State → Prop := fun _ st oc t => (∃ (rv : Option Value) (w' : va_W), oc = .returned rv ∧ post rv w' ∧ va_P Z.1 vwC w' t.heap ∧ va_D A w') ∧ va_F A st t
/-- a contract: from the world w the method ends; its answer and the world behind it are as post says -/
def CE (l : Launch) (Z : ZT) (y : MethodName) (b : ByteArray) (mL : Nat) (ret : Option FieldType) (k mc ms : Nat) (av : List Value) (w : va_W) (post : Option Value → va_W → Prop) : Prop := ∀ sz : Nat, Met l y (Cond.code y b mL ret :: wU) (rmk k mc ms) (PW Z w sz av) (QA Z (va_A w sz) post) mc ms (va_A w sz)
def CT (l : Launch) (Z : ZT) (y : MethodName) (b : ByteArray) (mL : Nat) (ret : Option FieldType) (k : Nat) (av : List Value) (w : va_W) (rv : Option Value) (w' : va_W) : Prop := CE l Z y b mL ret k 0 0 av w (fun r x => r = rv ∧ x = w')
theorem CE.mk {l : Launch} {Z : ZT} {y : MethodName} {b : ByteArray} {mL : Nat} {ret : Option FieldType} {k mc ms : Nat} {av : List Value} {w : va_W} {post : Option Value → va_W → Prop} (hy : plainName y.cls = true) (hlen : (lg_sl av).length ≤ mL)
    (body : ∀ (p : Program) (e : Env) (s : State) (m : MethodId) (args : Array Value) (below : List Frame) (meth : Method) (c : Code) (A : Nat → Prop) (Qx : State → Prop) (ls : Array Slot), EW p m c b mL s args y.cls Z → meth.sig.returnType = ret → meth.locks = false → meth.name = y.name → Qx = MQ below (QA Z A post) args s mc ms A → GW Z w A s.heap s.heap [] → lv_has ls mL (lv_args 0 av) → W p l e (rmk k mc ms) s m args below meth c s.heap [] 0 0 Qx (F0 m 0 ls [])) : CE l Z y b mL ret k mc ms av w post := by
  intro sz
  refine Met.ofW (cc := b) (maxL := mL) (ret := ret) hy rfl ?_
  intro p e s m args below meth c s₁ B hml hv
  obtain ⟨rfl, hsz, hK, hP, hD0⟩ := hv
  subst hsz
  have hts := atoms_spec (ws := Cond.code y b mL ret :: wU) B.pre
  rw [lg_entry_eq]
  exact body p e s m _ below meth c (va_A w s.heap.size) _ _ ⟨⟨B.exec, B.bytes, hml, findClass_of_methodNamed B.named, fun w h => hts w (List.mem_cons_of_mem _ h)⟩, hK⟩ B.returns B.notSynchronized (name_of_methodNamed B.named B.method).1 rfl ⟨hP, hD0.self, va_S.rf, fun q h => Or.inr h⟩ (lv_entry av hlen)
section BW
variable {p : Program} {l : Launch} {e : Env} {R : Room} {s : State} {m : MethodId} {args : Array Value} {below : List Frame} {meth : Method} {c : Code} {H H0 : Heap} {locs : List Loc} {cells slots : Nat} {Q : State → Prop}
variable {cc : ByteArray} {nL pc : Nat} {own : String} {Z : ZT} {w : va_W} {A : Nat → Prop} {ls : Array Slot} {rest : List Value} {a : Nat}
theorem r_get (E : EW p m c cc nL s args own Z) (G : GW Z w A H0 H locs) (j : Nat) {ci : Nat} {fs : List Value} (he : w[j]? = some (a, .inr (ci, fs))) {C : String} {T : u_T} {N : Nat} (hc : vwC[ci]? = some (C, T, N)) (hin : ∀ x ∈ u_ws C T N, x ∈ wU) (k : Nat) (hk : k < N) {idx : Nat} {ref : String} (hl : Cond.fieldLink own idx ref (T k).2.1 (T k).2.2.1 ∈ wU) (href : (T k).1 = ref) {v : Value} (hv : fs[k]? = some v) (hdg : decode cc pc = .ok (.getfield idx, 3))
    (kk : W p l e R s m args below meth c H locs cells slots Q (F0 m (pc + 3) ls (v :: rest))) : W p l e R s m args below meth c H locs cells slots Q (F0 m pc ls (.ref a :: rest)) := by
  obtain ⟨⟨hx, hb, -, hown, hts⟩, hK, -⟩ := E
  subst href
  exact va_get hx hb hts hin hown hK G.1 j he hc k hk (hts _ hl) (fun _ h => h) hv hdg kk
theorem r_put (E : EW p m c cc nL s args own Z) (G : GW Z w A H0 H locs) (j : Nat) {ci : Nat} {fs : List Value} (he : w[j]? = some (a, .inr (ci, fs))) {C : String} {T : u_T} {N : Nat} (hc : vwC[ci]? = some (C, T, N)) (hin : ∀ x ∈ u_ws C T N, x ∈ wU) {ty0 : Nat → FieldType} (hty : ∀ k, k < N → parseFieldDescriptor (T k).2.2.1 = some (ty0 k)) (hnm : ∀ a, a < N → ∀ b, b < N → a ≠ b → (T a).2.1 ≠ (T b).2.1) (k : Nat) (hk : k < N) {idx : Nat} {ref : String} (hl : Cond.fieldLink own idx ref (T k).2.1 (T k).2.2.1 ∈ wU) (href : (T k).1 = ref) (hfin : (T k).2.2.2 = false) (hd : parseFieldDescriptor (T k).2.2.1 = some .int) {v : Int32} (hlk : k < fs.length) {w' : va_W} (hw : w.set j (a, .inr (ci, fs.set k (.int v))) = w') (hdg : decode cc pc = .ok (.putfield idx, 3))
    (kk : ∀ (H1 : Heap) (locs1 : List Loc), GW Z w' A H0 H1 locs1 → W p l e R s m args below meth c H1 locs1 cells slots Q (F0 m (pc + 3) ls rest)) : W p l e R s m args below meth c H locs cells slots Q (F0 m pc ls (.int v :: .ref a :: rest)) := by
  obtain ⟨⟨hx, hb, -, hown, hts⟩, hK, -⟩ := E
  subst href
  subst hw
  exact va_put (ty := .int) hx hb hts hin ty0 hty hnm hown hK G.1 G.2.1 G.2.2.1 j he hc k hk (hts _ hl) (fun _ h => h) hfin hd rfl rfl hlk hdg (fun H1 locs1 h1 h2 h3 => kk H1 locs1 ⟨h1, h2, h3, G.2.2.2⟩)
theorem r_ald (E : EW p m c cc nL s args own Z) (G : GW Z w A H0 H locs) (j : Nat) {n : Nat} {f : Nat → Int32} (he : w[j]? = some (a, .inl (Z.2.1, n, .inl f))) {i : Int32} (hin : vp_in i n) (hdg : decode cc pc = .ok (.iaload, 1))
    (kk : W p l e R s m args below meth c H locs cells slots Q (F0 m (pc + 1) ls (.int (f i.toNatClampNeg) :: rest))) : W p l e R s m args below meth c H locs cells slots Q (F0 m pc ls (.int i :: .ref a :: rest)) := va_iald E.1.1 E.1.2.1 E.2.1 G.1 j 0 he rfl hin hdg kk
theorem r_zald (E : EW p m c cc nL s args own Z) (G : GW Z w A H0 H locs) (j : Nat) {n : Nat} {f : Nat → Int32} (he : w[j]? = some (a, .inl (Z.2.2.1, n, .inl f))) {i : Int32} (hin : vp_in i n) (hdg : decode cc pc = .ok (.baload, 1))
    (kk : W p l e R s m args below meth c H locs cells slots Q (F0 m (pc + 1) ls (.int (f i.toNatClampNeg) :: rest))) : W p l e R s m args below meth c H locs cells slots Q (F0 m pc ls (.int i :: .ref a :: rest)) := va_zald E.1.1 E.1.2.1 E.2.1 G.1 j 1 he rfl hin hdg kk
theorem r_ast (E : EW p m c cc nL s args own Z) (G : GW Z w A H0 H locs) (j : Nat) {n : Nat} {f : Nat → Int32} (he : w[j]? = some (a, .inl (Z.2.1, n, .inl f))) {i x : Int32} (hin : vp_in i n) {w' : va_W} (hw : w.set j (a, .inl (Z.2.1, n, .inl (upd f i.toNatClampNeg x))) = w') (hdg : decode cc pc = .ok (.iastore, 1))
    (kk : ∀ (H1 : Heap) (locs1 : List Loc), GW Z w' A H0 H1 locs1 → W p l e R s m args below meth c H1 locs1 cells slots Q (F0 m (pc + 1) ls rest)) : W p l e R s m args below meth c H locs cells slots Q (F0 m pc ls (.int x :: .int i :: .ref a :: rest)) := by
  subst hw
  exact va_iast E.1.1 E.1.2.1 E.2.1 G.1 G.2.1 G.2.2.1 j 0 he rfl hin hdg (fun H1 locs1 h1 h2 h3 => kk H1 locs1 ⟨h1, h2, h3, G.2.2.2⟩)
theorem r_ret {rv : Option Value} {w' : va_W} (E : EW p m c cc nL s args own Z) (G : GW Z w A s.heap H locs) (hr : meth.sig.returnType = some .int) (hlk : meth.locks = false) (hQ : Q = MQ below (QA Z A (fun r x => r = rv ∧ x = w')) args s cells slots A) {v : Int32} (hv : rv = some (.int v)) (hw : w = w') (hdg : decode cc pc = .ok (.ireturn, 1)) : W p l e R s m args below meth c H locs cells slots Q (F0 m pc ls [.int v]) := by
  subst hQ
  exact W.iret E.1.1 E.1.2.1 hr (fun t ht _ => ⟨⟨some (.int v), w, rfl, ⟨hv.symm, hw⟩, by rw [ht]; exact G.1, G.2.1⟩, G.2.2.1.F ht⟩) G.2.2.1.2.2 hdg hlk
theorem r_retz {rv : Option Value} {w' : va_W} (E : EW p m c cc nL s args own Z) (G : GW Z w A s.heap H locs) (hr : meth.sig.returnType = some .boolean) (hlk : meth.locks = false) (hQ : Q = MQ below (QA Z A (fun r x => r = rv ∧ x = w')) args s cells slots A) {v : Int32} (hn : narrow .boolean (.int v) = .int v) (hv : rv = some (.int v)) (hw : w = w') (hdg : decode cc pc = .ok (.ireturn, 1)) : W p l e R s m args below meth c H locs cells slots Q (F0 m pc ls [.int v]) := by
  subst hQ
  exact W.zret E.1.1 E.1.2.1 hr hn (fun t ht _ => ⟨⟨some (.int v), w, rfl, ⟨hv.symm, hw⟩, by rw [ht]; exact G.1, G.2.1⟩, G.2.2.1.F ht⟩) G.2.2.1.2.2 hdg hlk
theorem r_retv {w' : va_W} (E : EW p m c cc nL s args own Z) (G : GW Z w A s.heap H locs) (hr : meth.sig.returnType = none) (hlk : meth.locks = false) (hQ : Q = MQ below (QA Z A (fun r x => r = none ∧ x = w')) args s cells slots A) (hw : w = w') (hdg : decode cc pc = .ok (.return_, 1)) : W p l e R s m args below meth c H locs cells slots Q (F0 m pc ls []) := by
  subst hQ
  exact W.vret E.1.1 E.1.2.1 hr (fun t ht _ => ⟨⟨none, w, rfl, ⟨rfl, hw⟩, by rw [ht]; exact G.1, G.2.1⟩, G.2.2.1.F ht⟩) G.2.2.1.2.2 hdg hlk
theorem r_reta {post : Option Value → va_W → Prop} (E : EW p m c cc nL s args own Z) (G : GW Z w A s.heap H locs) {C : String} (hr : meth.sig.returnType = some (.object C)) (hlk : meth.locks = false) (hQ : Q = MQ below (QA Z A post) args s cells slots A) {v : Value} (hn : v = .null ∨ ∃ a, v = .ref a) (hp : post (some v) w) (hdg : decode cc pc = .ok (.areturn, 1)) : W p l e R s m args below meth c H locs cells slots Q (F0 m pc ls [v]) := by
  subst hQ
  exact W.aret E.1.1 E.1.2.1 hr (Or.inl ⟨C, rfl⟩) hn (fun t ht _ => ⟨⟨some v, w, rfl, hp, by rw [ht]; exact G.1, G.2.1⟩, G.2.2.1.F ht⟩) G.2.2.1.2.2 hdg hlk
theorem PW.blind {sz : Nat} {av : List Value} : FrameBlind (PW Z w sz av) := fun a U g mk h => ⟨h.1, h.2.1, KW.same (u := U) (U := U.calling g mk a) rfl h.2.2.1, h.2.2.2⟩
theorem PW.pre (hK : KW Z s) (G : GW Z w A H0 H locs) {av : List Value} : ∀ U : State, U.heap = H → s.WarmedH U.vm → PW Z w H.size av av.toArray U := fun U hU hW => ⟨rfl, by rw [hU], hK.warm hW, by rw [hU]; exact G.1, G.2.1.weaken (fun _ _ _ _ => trivial)⟩
theorem GW.free (G : GW Z w A H0 H locs) : ∀ q, va_A w H.size q → A q := by
  intro q h
  rcases h with ⟨k, e, h⟩ | h
  · exact G.2.1.2 k _ h
  · exact G.2.2.2 q (Nat.le_trans G.2.2.1.1 h)
/-- behind a call: the frame isn't cut, the callee has the whole world -/
theorem r_back (G : GW Z w A s.heap H locs) {mc ms : Nat} {st0 : List Value} {a : Array Value} {post : Option Value → va_W → Prop} (hr : va_Run p l e R s m args below meth c H locs cells slots mc ms (F0 m pc ls st0) rest (QA Z (va_A w H.size) post a) (va_A w H.size))
    (kk : ∀ (rv : Option Value) (w' : va_W) (H1 : Heap) (locs1 : List Loc), post rv w' → GW Z w' A s.heap H1 locs1 → W p l e R s m args below meth c H1 locs1 (cells + mc) (slots + ms) Q (F0 m (pc + 3) ls (rv.toList ++ rest))) : W p l e R s m args below meth c H locs cells slots Q (F0 m pc ls st0) := by
  intro T hT X
  obtain ⟨v, st₀, t, T', L, h0, X', hL, e1, e2, ⟨⟨rv, w', hv, hp, hP1, hD1⟩, hz, hk⟩, st⟩ := hr T hT X
  cases hv
  rw [h0] at hz hk
  have hF := G.free
  obtain ⟨t2, a1, b1⟩ := kk v w' T'.heap (locs ++ L) hp ⟨by rw [e1]; exact hP1, hD1.weaken (fun _ q _ h => hF q.1 h), ⟨Nat.le_trans G.2.2.1.1 (by rw [e1]; exact hz), fun q h1 h2 => by rw [e1, hk q (Nat.lt_of_lt_of_le h1 G.2.2.1.1) (fun z => h2 (hF q z))]; exact G.2.2.1.2.1 q h1 h2, fun q hq => by
      rcases List.mem_append.mp hq with h | h
      · exact G.2.2.1.2.2 q h
      · exact hF _ (hL q h)⟩, G.2.2.2⟩ T' rfl X'
  exact ⟨t2, st t2 a1, b1⟩
end BW
-- what the tables say of a method that is called
def KV (y : MethodName) (b : ByteArray) (mL : Nat) (ret : Option FieldType) (n : Nat) : Prop := (Cond.instanceMethod y ∈ wU ∧ Cond.selects y.cls y y ∈ wU ∧ Cond.initialized y.cls ∈ wU ∧ Cond.code y b mL ret ∈ wU) ∧ (y.cls ≠ "java/lang/invoke/MethodHandle" ∧ y.cls ≠ "java/lang/invoke/VarHandle" ∧ (parseMethodDescriptor y.desc).map (fun d => d.parameters.length) = some n)
def KS (y : MethodName) (b : ByteArray) (mL : Nat) (ret : Option FieldType) (n : Nat) : Prop := (Cond.static y ∈ wU ∧ Cond.initialized y.cls ∈ wU ∧ Cond.code y b mL ret ∈ wU) ∧ (y.cls ≠ "java/lang/invoke/MethodHandle" ∧ y.cls ≠ "java/lang/invoke/VarHandle" ∧ (parseMethodDescriptor y.desc).map (fun d => d.parameters.length) = some n)
section BC
variable {p : Program} {l : Launch} {e : Env} {R : Room} {s : State} {m : MethodId} {args : Array Value} {below : List Frame} {meth : Method} {c : Code} {H H0 : Heap} {locs : List Loc} {cells slots : Nat} {Q : State → Prop}
variable {cc : ByteArray} {nL pc : Nat} {own : String} {Z : ZT} {w : va_W} {A : Nat → Prop} {ls : Array Slot} {a : Nat}
variable {y : MethodName} {b : ByteArray} {mL k n idx : Nat} {ret : Option FieldType}
theorem r_runV (E : EW p m c cc nL s args own Z) (G : GW Z w A s.heap H locs) {mc ms : Nat} {As : List Value} {post : Option Value → va_W → Prop} (hM : CE l Z y b mL ret k mc ms (.ref a :: As) w post) (ky : KV y b mL ret n) (hl : Cond.methodLink own idx y ∈ wU) (hrv : ∃ (j ci : Nat) (fs : List Value) (T : u_T) (N : Nat), w[j]? = some (a, .inr (ci, fs)) ∧ vwC[ci]? = some (y.cls, T, N)) (hn : As.length = n) (hR : k + 1 ≤ R.frames ∧ 8 + (mL + 11) + 100 * k ≤ R.locals) {rest st0 : List Value} (hst : st0 = As.reverse ++ .ref a :: rest) (hsum : (rest.map fun v => v.category).sum ≤ 8) {lv : List (Nat × Value)} (hl2 : lv_has ls nL lv) (hdg : decode cc pc = .ok (.invokevirtual idx, 3)) (hf : cells + mc ≤ R.cells ∧ slots + ms ≤ R.slots) :
    va_Run p l e R s m args below meth c H locs cells slots mc ms (F0 m pc ls st0) rest (QA Z (va_A w H.size) post (Value.ref a :: As).toArray) (va_A w H.size) := by
  obtain ⟨⟨h1, h2, h3, h4⟩, h5, h6, h7⟩ := ky
  obtain ⟨j, ci, fs, T, N, hj, hcl⟩ := hrv
  have hts := E.1.2.2.2.2
  exact va_runV (As := As) (rest := rest) E.1 (hM H.size) (bytes := b) (maxL := mL) (ret := ret) (n := n) (C := y.cls)
    ⟨callB_of n hts (wU_G h4) rfl rfl rfl (hts _ h3) (hts _ hl) ⟨h5, h6, h7⟩ hR, hts _ h1, hts _ h2⟩
    ⟨PW.blind, va_recv E.2.1 G.1 hcl hj, PW.pre E.2 G⟩ rfl hn hl2.1 hst (lv_room hsum) hdg hf
theorem r_runS (E : EW p m c cc nL s args own Z) (G : GW Z w A s.heap H locs) {mc ms : Nat} {As : List Value} {post : Option Value → va_W → Prop} (hM : CE l Z y b mL ret k mc ms As w post) (ky : KS y b mL ret n) (hl : Cond.methodLink own idx y ∈ wU) (hn : As.length = n) (hR : k + 1 ≤ R.frames ∧ 8 + (mL + 11) + 100 * k ≤ R.locals) {rest st0 : List Value} (hst : st0 = As.reverse ++ rest) (hsum : (rest.map fun v => v.category).sum ≤ 8) {lv : List (Nat × Value)} (hl2 : lv_has ls nL lv) (hdg : decode cc pc = .ok (.invokestatic idx, 3)) (hf : cells + mc ≤ R.cells ∧ slots + ms ≤ R.slots) :
    va_Run p l e R s m args below meth c H locs cells slots mc ms (F0 m pc ls st0) rest (QA Z (va_A w H.size) post As.toArray) (va_A w H.size) := by
  obtain ⟨⟨h1, h3, h4⟩, h5, h6, h7⟩ := ky
  have hts := E.1.2.2.2.2
  exact va_runS (As := As) (rest := rest) E.1 (hM H.size) (bytes := b) (maxL := mL) (ret := ret) (n := n)
    ⟨callB_of n hts (wU_G h4) rfl rfl rfl (hts _ h3) (hts _ hl) ⟨h5, h6, h7⟩ hR, hts _ h1⟩
    ⟨PW.blind, PW.pre E.2 G⟩ rfl hn hl2.1 hst (lv_room hsum) hdg hf
/-- a call of a method of the world, with an answer -/
theorem r_V {As : List Value} {w' : va_W} {v : Value} (rest : List Value) (E : EW p m c cc nL s args own Z) (G : GW Z w A s.heap H locs) (hM : CT l Z y b mL ret k (.ref a :: As) w (some v) w') (ky : KV y b mL ret n) (hl : Cond.methodLink own idx y ∈ wU) (j : Nat) {ci : Nat} {fs : List Value} {T : u_T} {N : Nat} (hj : w[j]? = some (a, .inr (ci, fs))) (hcl : vwC[ci]? = some (y.cls, T, N)) (hR : k + 1 ≤ R.frames ∧ 8 + (mL + 11) + 100 * k ≤ R.locals) {st0 : List Value} {lv : List (Nat × Value)} (hl2 : lv_has ls nL lv) (hdg : decode cc pc = .ok (.invokevirtual idx, 3)) (hst : st0 = As.reverse ++ .ref a :: rest) (hn : As.length = n) (hsum : (rest.map fun v => v.category).sum ≤ 8) (hf : cells ≤ R.cells ∧ slots ≤ R.slots)
    (kk : ∀ (H1 : Heap) (locs1 : List Loc), GW Z w' A s.heap H1 locs1 → W p l e R s m args below meth c H1 locs1 cells slots Q (F0 m (pc + 3) ls (v :: rest))) : W p l e R s m args below meth c H locs cells slots Q (F0 m pc ls st0) :=
  r_back G (r_runV E G hM ky hl ⟨j, ci, fs, T, N, hj, hcl⟩ hn hR hst hsum hl2 hdg hf) (fun rv x H1 locs1 hp hG => by obtain ⟨rfl, rfl⟩ := hp; exact kk H1 locs1 hG)
theorem r_Vv {As : List Value} {w' : va_W} (rest : List Value) (E : EW p m c cc nL s args own Z) (G : GW Z w A s.heap H locs) (hM : CT l Z y b mL ret k (.ref a :: As) w none w') (ky : KV y b mL ret n) (hl : Cond.methodLink own idx y ∈ wU) (j : Nat) {ci : Nat} {fs : List Value} {T : u_T} {N : Nat} (hj : w[j]? = some (a, .inr (ci, fs))) (hcl : vwC[ci]? = some (y.cls, T, N)) (hR : k + 1 ≤ R.frames ∧ 8 + (mL + 11) + 100 * k ≤ R.locals) {st0 : List Value} {lv : List (Nat × Value)} (hl2 : lv_has ls nL lv) (hdg : decode cc pc = .ok (.invokevirtual idx, 3)) (hst : st0 = As.reverse ++ .ref a :: rest) (hn : As.length = n) (hsum : (rest.map fun v => v.category).sum ≤ 8) (hf : cells ≤ R.cells ∧ slots ≤ R.slots)
    (kk : ∀ (H1 : Heap) (locs1 : List Loc), GW Z w' A s.heap H1 locs1 → W p l e R s m args below meth c H1 locs1 cells slots Q (F0 m (pc + 3) ls rest)) : W p l e R s m args below meth c H locs cells slots Q (F0 m pc ls st0) :=
  r_back G (r_runV E G hM ky hl ⟨j, ci, fs, T, N, hj, hcl⟩ hn hR hst hsum hl2 hdg hf) (fun rv x H1 locs1 hp hG => by obtain ⟨rfl, rfl⟩ := hp; exact kk H1 locs1 hG)
theorem r_S {As : List Value} {w' : va_W} {v : Value} (rest : List Value) (E : EW p m c cc nL s args own Z) (G : GW Z w A s.heap H locs) (hM : CT l Z y b mL ret k As w (some v) w') (ky : KS y b mL ret n) (hl : Cond.methodLink own idx y ∈ wU) (hR : k + 1 ≤ R.frames ∧ 8 + (mL + 11) + 100 * k ≤ R.locals) {st0 : List Value} {lv : List (Nat × Value)} (hl2 : lv_has ls nL lv) (hdg : decode cc pc = .ok (.invokestatic idx, 3)) (hst : st0 = As.reverse ++ rest) (hn : As.length = n) (hsum : (rest.map fun v => v.category).sum ≤ 8) (hf : cells ≤ R.cells ∧ slots ≤ R.slots)
    (kk : ∀ (H1 : Heap) (locs1 : List Loc), GW Z w' A s.heap H1 locs1 → W p l e R s m args below meth c H1 locs1 cells slots Q (F0 m (pc + 3) ls (v :: rest))) : W p l e R s m args below meth c H locs cells slots Q (F0 m pc ls st0) :=
  r_back G (r_runS E G hM ky hl hn hR hst hsum hl2 hdg hf) (fun rv x H1 locs1 hp hG => by obtain ⟨rfl, rfl⟩ := hp; exact kk H1 locs1 hG)
end BC
-- booleans
def b01 (b : Bool) : Int32 := if b then 1 else 0
theorem b01_n (b : Bool) : narrow .boolean (.int (b01 b)) = .int (b01 b) := by cases b <;> decide
theorem b01_t {b : Bool} (h : b = true) : b01 b = 1 := by rw [h]; rfl
theorem b01_f {b : Bool} (h : b = false) : b01 b = 0 := by rw [h]; rfl
section BB
variable {p : Program} {l : Launch} {e : Env} {R : Room} {s : State} {m : MethodId} {args : Array Value} {below : List Frame} {meth : Method} {c : Code} {H : Heap} {locs : List Loc} {cells slots : Nat} {Q : State → Prop} {cc : ByteArray} {pc : Nat} {ls : Array Slot} {rest : List Value}
theorem r_eqb (hx : p.tables.exec = Jvm.exec) (hb : c.code = cc) {b : Bool} {off : Int} {tgt : Nat} (hdg : decode cc pc = .ok (.ifCond .eq off, 3)) (ht : (pc : Int) + off = (tgt : Int))
    (kt : b = false → W p l e R s m args below meth c H locs cells slots Q (F0 m tgt ls rest)) (kf : b = true → W p l e R s m args below meth c H locs cells slots Q (F0 m (pc + 3) ls rest)) : W p l e R s m args below meth c H locs cells slots Q (F0 m pc ls (.int (b01 b) :: rest)) :=
  lv_if_eq hx hb hdg ht (fun h => kt (by cases b; rfl; exact absurd h (by decide))) (fun h => kf (by cases b; exact absurd rfl h; rfl))
theorem r_neb (hx : p.tables.exec = Jvm.exec) (hb : c.code = cc) {b : Bool} {off : Int} {tgt : Nat} (hdg : decode cc pc = .ok (.ifCond .ne off, 3)) (ht : (pc : Int) + off = (tgt : Int))
    (kt : b = true → W p l e R s m args below meth c H locs cells slots Q (F0 m tgt ls rest)) (kf : b = false → W p l e R s m args below meth c H locs cells slots Q (F0 m (pc + 3) ls rest)) : W p l e R s m args below meth c H locs cells slots Q (F0 m pc ls (.int (b01 b) :: rest)) :=
  lv_if_ne hx hb hdg ht (fun h => kt (by cases b; exact absurd rfl h; rfl)) (fun h => kf (by cases b; rfl; exact absurd h (by decide)))
end BB
/-- a loop that counts up: from its end back to its beginning -/
theorem up_ind {P : Nat → Prop} (N : Nat) (h : P N) (st : ∀ k, k < N → P (k + 1) → P k) : ∀ k, k ≤ N → P k := by
  have key : ∀ d k, k + d = N → P k := by
    intro d
    induction d with
    | zero => intro k hk; rw [show k = N by omega]; exact h
    | succ d ih => intro k hk; exact st k (by omega) (ih (k + 1) (by omega))
  exact fun k hk => key (N - k) k (by omega)
theorem up_in2 {P : Nat → Prop} (N : Nat) (st : ∀ k, k ≤ N → (k < N → P (k + 1)) → P k) : ∀ k, k ≤ N → P k := by
  have key : ∀ d k, k + d = N → P k := by
    intro d
    induction d with
    | zero => intro k hk; exact st k (by omega) (fun h => absurd h (by omega))
    | succ d ih => intro k hk; exact st k (by omega) (fun _ => ih (k + 1) (by omega))
  exact fun k hk => key (N - k) k (by omega)
theorem GW.cast {Z : ZT} {w w' : va_W} {A : Nat → Prop} {H0 H : Heap} {locs : List Loc} (h : w = w') (G : GW Z w A H0 H locs) : GW Z w' A H0 H locs := h ▸ G
theorem lv_cast {ls : Array Slot} {n : Nat} {a b : List (Nat × Value)} (h : lv_has ls n a) (e : a = b) : lv_has ls n b := e ▸ h
theorem lp_lt {x : Int32} {k : Nat} (h0 : 0 ≤ x) (hk : k ≤ x.toNatClampNeg) (c : ¬ x ≤ nI k) : k < x.toNatClampNeg := by
  obtain ⟨n, hn, e⟩ := nI_of (x := x) (Int32.not_lt.mpr h0)
  subst e
  rw [nI_clamp hn] at hk ⊢
  rcases Nat.lt_or_ge k n with h | h
  · exact h
  · exact absurd (nI_le h (by omega)) c
theorem lp_eq {x : Int32} {k : Nat} (h0 : 0 ≤ x) (hk : k ≤ x.toNatClampNeg) (c : x ≤ nI k) : k = x.toNatClampNeg := by
  obtain ⟨n, hn, e⟩ := nI_of (x := x) (Int32.not_lt.mpr h0)
  subst e
  rw [nI_clamp hn] at hk ⊢
  rcases Nat.lt_or_ge k n with h | h
  · exact absurd c (nI_ge h hn)
  · omega
theorem kX8_street : KV yX8_street cX8_street 2 (some .int) 1 := ⟨⟨m_223, m_224, m_42, m_225⟩, by decide +kernel⟩
theorem kX8_finding : KV yX8_finding cX8_finding 3 (some .int) 1 := ⟨⟨m_229, m_0, m_42, m_230⟩, by decide +kernel⟩
theorem kX5_isFull : KV yX5_isFull cX5_isFull 1 (some .boolean) 0 := ⟨⟨m_233, m_234, m_43, m_235⟩, by decide +kernel⟩
theorem kX5_add : KV yX5_add cX5_add 2 (some .int) 1 := ⟨⟨m_238, m_239, m_43, m_240⟩, by decide +kernel⟩
theorem kX8_way : KV yX8_way cX8_way 5 (some .int) 3 := ⟨⟨m_242, m_243, m_42, m_244⟩, by decide +kernel⟩
theorem kX5_has : KV yX5_has cX5_has 2 (some .boolean) 1 := ⟨⟨m_246, m_247, m_43, m_248⟩, by decide +kernel⟩
theorem kX8_isWithin : KS yX8_isWithin cX8_isWithin 2 (some .boolean) 2 := ⟨⟨m_250, m_42, m_251⟩, by decide +kernel⟩
theorem kX5_wayBetween : KV yX5_wayBetween cX5_wayBetween 3 (some .int) 2 := ⟨⟨m_253, m_254, m_43, m_255⟩, by decide +kernel⟩
theorem kX5_setWay : KV yX5_setWay cX5_setWay 4 none 3 := ⟨⟨m_257, m_258, m_43, m_259⟩, by decide +kernel⟩
theorem kX8_wish : KV yX8_wish cX8_wish 5 (some .int) 3 := ⟨⟨m_261, m_262, m_42, m_263⟩, by decide +kernel⟩
theorem kX8_isHour : KS yX8_isHour cX8_isHour 1 (some .boolean) 1 := ⟨⟨m_265, m_42, m_266⟩, by decide +kernel⟩
theorem kX5_wishAt : KV yX5_wishAt cX5_wishAt 3 (some .int) 2 := ⟨⟨m_268, m_269, m_43, m_270⟩, by decide +kernel⟩
theorem kX5_setWish : KV yX5_setWish cX5_setWish 4 none 3 := ⟨⟨m_272, m_273, m_43, m_274⟩, by decide +kernel⟩
theorem kX8_heat : KV yX8_heat cX8_heat 3 (some .int) 1 := ⟨⟨m_276, m_277, m_42, m_278⟩, by decide +kernel⟩
theorem kX8_van : KV yX8_van cX8_van 2 (some .int) 1 := ⟨⟨m_280, m_281, m_42, m_282⟩, by decide +kernel⟩
theorem kX8_isKind : KS yX8_isKind cX8_isKind 1 (some .boolean) 1 := ⟨⟨m_284, m_42, m_285⟩, by decide +kernel⟩
theorem kX8_newVan : KS yX8_newVan cX8_newVan 1 (some (.object "ConeRounds$Van")) 1 := ⟨⟨m_287, m_42, m_288⟩, by decide +kernel⟩
theorem kX8_as : KV yX8_as cX8_as 4 (some .int) 2 := ⟨⟨m_322, m_323, m_42, m_324⟩, by decide +kernel⟩
theorem kX8_vanNumber : KV yX8_vanNumber cX8_vanNumber 2 (some (.object "ConeRounds$Van")) 1 := ⟨⟨m_327, m_1, m_42, m_328⟩, by decide +kernel⟩
theorem kX8_isOfKind : KS yX8_isOfKind cX8_isOfKind 2 (some .boolean) 2 := ⟨⟨m_330, m_42, m_331⟩, by decide +kernel⟩
theorem kX8_stock : KV yX8_stock cX8_stock 5 (some .int) 2 := ⟨⟨m_334, m_335, m_42, m_336⟩, by decide +kernel⟩
theorem kX8_licence : KV yX8_licence cX8_licence 5 (some .int) 2 := ⟨⟨m_338, m_339, m_42, m_340⟩, by decide +kernel⟩
theorem kX8_law : KV yX8_law cX8_law 4 (some .int) 3 := ⟨⟨m_342, m_343, m_42, m_344⟩, by decide +kernel⟩
theorem kX8_may : KV yX8_may cX8_may 5 (some .int) 3 := ⟨⟨m_346, m_347, m_42, m_348⟩, by decide +kernel⟩
theorem kX8_mayStand : KV yX8_mayStand cX8_mayStand 4 (some .boolean) 3 := ⟨⟨m_351, m_2, m_42, m_352⟩, by decide +kernel⟩
theorem kX7_isLicensed : KV yX7_isLicensed cX7_isLicensed 2 (some .boolean) 1 := ⟨⟨m_354, m_355, m_49, m_359⟩, by decide +kernel⟩
theorem kX8_isBarred : KV yX8_isBarred cX8_isBarred 3 (some .boolean) 2 := ⟨⟨m_362, m_3, m_42, m_363⟩, by decide +kernel⟩
theorem kX3_barsSchoolsAt : KV yX3_barsSchoolsAt cX3_barsSchoolsAt 2 (some .boolean) 1 := ⟨⟨m_365, m_366, m_44, m_367⟩, by decide +kernel⟩
theorem kX8_worth : KV yX8_worth cX8_worth 3 (some .int) 2 := ⟨⟨m_369, m_370, m_42, m_371⟩, by decide +kernel⟩
theorem kX5_worthAt : KV yX5_worthAt cX5_worthAt 3 (some .int) 2 := ⟨⟨m_373, m_374, m_43, m_375⟩, by decide +kernel⟩
theorem kX8_plan : KV yX8_plan cX8_plan 5 (some .int) 3 := ⟨⟨m_378, m_379, m_42, m_380⟩, by decide +kernel⟩
theorem kX8_makePlan : KV yX8_makePlan cX8_makePlan 7 (some .int) 3 := ⟨⟨m_383, m_4, m_42, m_384⟩, by decide +kernel⟩
theorem kX8_isPlace : KV yX8_isPlace cX8_isPlace 2 (some .boolean) 1 := ⟨⟨m_387, m_5, m_42, m_388⟩, by decide +kernel⟩
theorem kX8_streetOf : KS yX8_streetOf cX8_streetOf 1 (some .int) 1 := ⟨⟨m_390, m_42, m_391⟩, by decide +kernel⟩
theorem kX8_hourOf : KS yX8_hourOf cX8_hourOf 1 (some .int) 1 := ⟨⟨m_393, m_42, m_394⟩, by decide +kernel⟩
theorem kX6_begin : KV yX6_begin cX6_begin 2 none 1 := ⟨⟨m_397, m_398, m_45, m_399⟩, by decide +kernel⟩
theorem kX8_explore : KV yX8_explore cX8_explore 9 none 4 := ⟨⟨m_405, m_6, m_42, m_406⟩, by decide +kernel⟩
theorem kX6_isFull : KV yX6_isFull cX6_isFull 1 (some .boolean) 0 := ⟨⟨m_408, m_409, m_45, m_410⟩, by decide +kernel⟩
theorem kX6_standIn : KV yX6_standIn cX6_standIn 7 none 4 := ⟨⟨m_412, m_413, m_45, m_414⟩, by decide +kernel⟩
theorem kX6_wasLatelyIn : KV yX6_wasLatelyIn cX6_wasLatelyIn 4 (some .boolean) 2 := ⟨⟨m_417, m_7, m_45, m_418⟩, by decide +kernel⟩
theorem kX7_mostSoldOf : KV yX7_mostSoldOf cX7_mostSoldOf 2 (some .int) 1 := ⟨⟨m_420, m_421, m_49, m_428⟩, by decide +kernel⟩
theorem kX7_meltingOf : KV yX7_meltingOf cX7_meltingOf 2 (some .int) 1 := ⟨⟨m_431, m_432, m_49, m_440⟩, by decide +kernel⟩
theorem kX6_copyFrom : KV yX6_copyFrom cX6_copyFrom 3 none 1 := ⟨⟨m_442, m_443, m_45, m_444⟩, by decide +kernel⟩
theorem kX8_hoursBetween : KV yX8_hoursBetween cX8_hoursBetween 4 (some .int) 3 := ⟨⟨m_447, m_8, m_42, m_448⟩, by decide +kernel⟩
theorem kX7_hoursAcross : KV yX7_hoursAcross cX7_hoursAcross 2 (some .int) 1 := ⟨⟨m_450, m_451, m_49, m_457⟩, by decide +kernel⟩
theorem kX6_stepBack : KV yX6_stepBack cX6_stepBack 3 none 2 := ⟨⟨m_459, m_460, m_45, m_461⟩, by decide +kernel⟩
theorem kX8_stop : KV yX8_stop cX8_stop 6 (some .int) 4 := ⟨⟨m_463, m_464, m_42, m_465⟩, by decide +kernel⟩
theorem kX6_has : KV yX6_has cX6_has 2 (some .boolean) 1 := ⟨⟨m_467, m_468, m_45, m_469⟩, by decide +kernel⟩
theorem kX8_left : KV yX8_left cX8_left 5 (some .int) 3 := ⟨⟨m_472, m_473, m_42, m_474⟩, by decide +kernel⟩
theorem kX8_stand : KV yX8_stand cX8_stand 6 (some .int) 3 := ⟨⟨m_476, m_477, m_42, m_478⟩, by decide +kernel⟩
theorem kX4_latestAhead : KV yX4_latestAhead cX4_latestAhead 5 (some .int) 2 := ⟨⟨m_480, m_481, m_46, m_482⟩, by decide +kernel⟩
theorem kX4_has : KV yX4_has cX4_has 2 (some .boolean) 1 := ⟨⟨m_484, m_485, m_46, m_486⟩, by decide +kernel⟩
theorem kX4_isFull : KV yX4_isFull cX4_isFull 1 (some .boolean) 0 := ⟨⟨m_488, m_489, m_46, m_490⟩, by decide +kernel⟩
theorem kX4_add : KV yX4_add cX4_add 5 (some .int) 4 := ⟨⟨m_492, m_493, m_46, m_494⟩, by decide +kernel⟩
theorem kX8_wrong : KV yX8_wrong cX8_wrong 2 (some .int) 1 := ⟨⟨m_496, m_497, m_42, m_498⟩, by decide +kernel⟩
theorem kX8_faultOf : KV yX8_faultOf cX8_faultOf 4 (some .int) 1 := ⟨⟨m_501, m_9, m_42, m_502⟩, by decide +kernel⟩
theorem kX8_isTooSoon : KV yX8_isTooSoon cX8_isTooSoon 5 (some .boolean) 2 := ⟨⟨m_505, m_10, m_42, m_506⟩, by decide +kernel⟩
theorem kX4_isTaken : KV yX4_isTaken cX4_isTaken 3 (some .boolean) 1 := ⟨⟨m_508, m_509, m_46, m_510⟩, by decide +kernel⟩
theorem kX8_clear : KV yX8_clear cX8_clear 3 (some .int) 0 := ⟨⟨m_512, m_513, m_42, m_514⟩, by decide +kernel⟩
theorem kX8_holder : KV yX8_holder cX8_holder 3 (some .int) 1 := ⟨⟨m_516, m_517, m_42, m_518⟩, by decide +kernel⟩
theorem kX8_holderOf : KV yX8_holderOf cX8_holderOf 6 (some .int) 1 := ⟨⟨m_521, m_11, m_42, m_522⟩, by decide +kernel⟩
theorem kX4_countOf : KV yX4_countOf cX4_countOf 5 (some .int) 2 := ⟨⟨m_524, m_525, m_46, m_526⟩, by decide +kernel⟩
theorem kX8_gets : KV yX8_gets cX8_gets 9 (some .int) 4 := ⟨⟨m_528, m_529, m_42, m_530⟩, by decide +kernel⟩
theorem kX8_isPair : KV yX8_isPair cX8_isPair 2 (some .boolean) 1 := ⟨⟨m_533, m_12, m_42, m_534⟩, by decide +kernel⟩
theorem kX8_shareOf : KV yX8_shareOf cX8_shareOf 8 (some .int) 5 := ⟨⟨m_537, m_13, m_42, m_538⟩, by decide +kernel⟩
theorem kX8_balance : KV yX8_balance cX8_balance 8 (some .int) 4 := ⟨⟨m_540, m_541, m_42, m_542⟩, by decide +kernel⟩
theorem kX8_areTwoVans : KV yX8_areTwoVans cX8_areTwoVans 3 (some .boolean) 2 := ⟨⟨m_545, m_14, m_42, m_546⟩, by decide +kernel⟩
theorem kX8_isBalance : KV yX8_isBalance cX8_isBalance 6 (some .boolean) 5 := ⟨⟨m_549, m_15, m_42, m_550⟩, by decide +kernel⟩
theorem kX8_isContent : KV yX8_isContent cX8_isContent 9 (some .boolean) 5 := ⟨⟨m_553, m_16, m_42, m_554⟩, by decide +kernel⟩
theorem kX8_together : KV yX8_together cX8_together 11 (some .int) 3 := ⟨⟨m_556, m_557, m_42, m_558⟩, by decide +kernel⟩
theorem kX8_credit : KV yX8_credit cX8_credit 3 (some .int) 1 := ⟨⟨m_560, m_561, m_42, m_562⟩, by decide +kernel⟩
theorem kX8_bill : KV yX8_bill cX8_bill 3 (some .int) 2 := ⟨⟨m_564, m_565, m_42, m_566⟩, by decide +kernel⟩
theorem kX1_isFull : KV yX1_isFull cX1_isFull 1 (some .boolean) 0 := ⟨⟨m_568, m_569, m_47, m_570⟩, by decide +kernel⟩
theorem kX1_add : KV yX1_add cX1_add 3 (some .int) 2 := ⟨⟨m_572, m_573, m_47, m_574⟩, by decide +kernel⟩
theorem kX8_pay : KV yX8_pay cX8_pay 3 (some .int) 2 := ⟨⟨m_576, m_577, m_42, m_578⟩, by decide +kernel⟩
theorem kX1_has : KV yX1_has cX1_has 2 (some .boolean) 1 := ⟨⟨m_580, m_581, m_47, m_582⟩, by decide +kernel⟩
theorem kX8_owed : KV yX8_owed cX8_owed 3 (some .int) 2 := ⟨⟨m_584, m_585, m_42, m_586⟩, by decide +kernel⟩
theorem kX1_owedOfAll : KV yX1_owedOfAll cX1_owedOfAll 4 (some .int) 1 := ⟨⟨m_588, m_589, m_47, m_590⟩, by decide +kernel⟩
theorem kX1_owedOf : KV yX1_owedOf cX1_owedOf 4 (some .int) 2 := ⟨⟨m_592, m_593, m_47, m_594⟩, by decide +kernel⟩
theorem kX8_tell : KV yX8_tell cX8_tell 2 (some .int) 1 := ⟨⟨m_600, m_601, m_42, m_602⟩, by decide +kernel⟩
theorem kX8_check : KV yX8_check cX8_check 4 (some .int) 1 := ⟨⟨m_604, m_605, m_42, m_606⟩, by decide +kernel⟩
theorem kX8_walkTold : KV yX8_walkTold cX8_walkTold 5 (some .boolean) 2 := ⟨⟨m_609, m_17, m_42, m_610⟩, by decide +kernel⟩
theorem kX8_goesOn : KV yX8_goesOn cX8_goesOn 5 (some .boolean) 3 := ⟨⟨m_613, m_18, m_42, m_614⟩, by decide +kernel⟩
theorem kX8_count : KV yX8_count cX8_count 2 (some .int) 1 := ⟨⟨m_616, m_617, m_42, m_618⟩, by decide +kernel⟩
theorem kX8_stockOfAll : KV yX8_stockOfAll cX8_stockOfAll 4 (some .int) 0 := ⟨⟨m_621, m_19, m_42, m_622⟩, by decide +kernel⟩
theorem kX8_found : KV yX8_found cX8_found 2 (some .int) 1 := ⟨⟨m_624, m_625, m_42, m_626⟩, by decide +kernel⟩
theorem kX9_street : KV yX9_street cX9_street 2 (some .int) 1 := ⟨⟨m_740, m_741, m_48, m_742⟩, by decide +kernel⟩
theorem kX9_in : KS yX9_in cX9_in 3 (some .boolean) 3 := ⟨⟨m_744, m_48, m_745⟩, by decide +kernel⟩
theorem kX9_finds : KV yX9_finds cX9_finds 2 (some .int) 1 := ⟨⟨m_748, m_20, m_48, m_749⟩, by decide +kernel⟩
theorem kX9_way : KV yX9_way cX9_way 5 (some .int) 3 := ⟨⟨m_752, m_753, m_48, m_754⟩, by decide +kernel⟩
theorem kX9_isStreet : KV yX9_isStreet cX9_isStreet 2 (some .boolean) 1 := ⟨⟨m_757, m_21, m_48, m_758⟩, by decide +kernel⟩
theorem kX9_wish : KV yX9_wish cX9_wish 5 (some .int) 3 := ⟨⟨m_760, m_761, m_48, m_762⟩, by decide +kernel⟩
theorem kX9_isHour : KS yX9_isHour cX9_isHour 1 (some .boolean) 1 := ⟨⟨m_764, m_48, m_765⟩, by decide +kernel⟩
theorem kX9_heat : KV yX9_heat cX9_heat 3 (some .int) 1 := ⟨⟨m_767, m_768, m_48, m_769⟩, by decide +kernel⟩
theorem kX9_van : KV yX9_van cX9_van 2 (some .int) 1 := ⟨⟨m_771, m_772, m_48, m_773⟩, by decide +kernel⟩
theorem kX9_as : KV yX9_as cX9_as 3 (some .int) 2 := ⟨⟨m_775, m_776, m_48, m_777⟩, by decide +kernel⟩
theorem kX9_isVan : KV yX9_isVan cX9_isVan 2 (some .boolean) 1 := ⟨⟨m_780, m_22, m_48, m_781⟩, by decide +kernel⟩
theorem kX9_stock : KV yX9_stock cX9_stock 4 (some .int) 2 := ⟨⟨m_783, m_784, m_48, m_785⟩, by decide +kernel⟩
theorem kX9_licence : KV yX9_licence cX9_licence 4 (some .int) 2 := ⟨⟨m_787, m_788, m_48, m_789⟩, by decide +kernel⟩
theorem kX9_law : KV yX9_law cX9_law 4 (some .int) 3 := ⟨⟨m_791, m_792, m_48, m_793⟩, by decide +kernel⟩
theorem kX9_may : KV yX9_may cX9_may 4 (some .int) 3 := ⟨⟨m_795, m_796, m_48, m_797⟩, by decide +kernel⟩
theorem kX9_mayStand : KV yX9_mayStand cX9_mayStand 4 (some .boolean) 3 := ⟨⟨m_800, m_23, m_48, m_801⟩, by decide +kernel⟩
theorem kX9_isLicensed : KV yX9_isLicensed cX9_isLicensed 3 (some .boolean) 2 := ⟨⟨m_804, m_24, m_48, m_805⟩, by decide +kernel⟩
theorem kX9_isBarred : KV yX9_isBarred cX9_isBarred 3 (some .boolean) 2 := ⟨⟨m_808, m_25, m_48, m_809⟩, by decide +kernel⟩
theorem kX9_worth : KV yX9_worth cX9_worth 3 (some .int) 2 := ⟨⟨m_811, m_812, m_48, m_813⟩, by decide +kernel⟩
theorem kX9_worthOf : KV yX9_worthOf cX9_worthOf 3 (some .int) 2 := ⟨⟨m_816, m_26, m_48, m_817⟩, by decide +kernel⟩
theorem kX9_plan : KV yX9_plan cX9_plan 5 (some .int) 3 := ⟨⟨m_819, m_820, m_48, m_821⟩, by decide +kernel⟩
theorem kX9_whyNot : KV yX9_whyNot cX9_whyNot 4 (some .int) 3 := ⟨⟨m_824, m_27, m_48, m_825⟩, by decide +kernel⟩
theorem kX9_isAt : KV yX9_isAt cX9_isAt 2 (some .boolean) 1 := ⟨⟨m_828, m_28, m_48, m_829⟩, by decide +kernel⟩
theorem kX9_findPlan : KV yX9_findPlan cX9_findPlan 8 none 3 := ⟨⟨m_832, m_29, m_48, m_833⟩, by decide +kernel⟩
theorem kX9_sells : KV yX9_sells cX9_sells 9 none 2 := ⟨⟨m_836, m_30, m_48, m_837⟩, by decide +kernel⟩
theorem kX9_note : KV yX9_note cX9_note 3 none 1 := ⟨⟨m_840, m_31, m_48, m_841⟩, by decide +kernel⟩
theorem kX9_later : KV yX9_later cX9_later 4 (some .int) 3 := ⟨⟨m_844, m_32, m_48, m_845⟩, by decide +kernel⟩
theorem kX9_stop : KV yX9_stop cX9_stop 6 (some .int) 4 := ⟨⟨m_847, m_848, m_48, m_849⟩, by decide +kernel⟩
theorem kX9_left : KV yX9_left cX9_left 5 (some .int) 3 := ⟨⟨m_851, m_852, m_48, m_853⟩, by decide +kernel⟩
theorem kX9_stand : KV yX9_stand cX9_stand 5 (some .int) 3 := ⟨⟨m_855, m_856, m_48, m_857⟩, by decide +kernel⟩
theorem kX9_ahead : KV yX9_ahead cX9_ahead 4 (some .int) 2 := ⟨⟨m_860, m_33, m_48, m_861⟩, by decide +kernel⟩
theorem kX9_wrong : KV yX9_wrong cX9_wrong 2 (some .int) 1 := ⟨⟨m_863, m_864, m_48, m_865⟩, by decide +kernel⟩
theorem kX9_wrongOf : KV yX9_wrongOf cX9_wrongOf 6 (some .int) 1 := ⟨⟨m_868, m_34, m_48, m_869⟩, by decide +kernel⟩
theorem kX9_clear : KV yX9_clear cX9_clear 3 (some .int) 0 := ⟨⟨m_871, m_872, m_48, m_873⟩, by decide +kernel⟩
theorem kX9_holder : KV yX9_holder cX9_holder 3 (some .int) 1 := ⟨⟨m_875, m_876, m_48, m_877⟩, by decide +kernel⟩
theorem kX9_holderOf : KV yX9_holderOf cX9_holderOf 7 (some .int) 1 := ⟨⟨m_880, m_35, m_48, m_881⟩, by decide +kernel⟩
theorem kX9_gets : KV yX9_gets cX9_gets 5 (some .int) 4 := ⟨⟨m_883, m_884, m_48, m_885⟩, by decide +kernel⟩
theorem kX9_getsOf : KV yX9_getsOf cX9_getsOf 8 (some .int) 5 := ⟨⟨m_888, m_36, m_48, m_889⟩, by decide +kernel⟩
theorem kX9_balance : KV yX9_balance cX9_balance 8 (some .int) 4 := ⟨⟨m_891, m_892, m_48, m_893⟩, by decide +kernel⟩
theorem kX9_areTwo : KV yX9_areTwo cX9_areTwo 4 (some .boolean) 3 := ⟨⟨m_896, m_37, m_48, m_897⟩, by decide +kernel⟩
theorem kX9_isBalance : KV yX9_isBalance cX9_isBalance 7 (some .boolean) 5 := ⟨⟨m_900, m_38, m_48, m_901⟩, by decide +kernel⟩
theorem kX9_together : KV yX9_together cX9_together 9 (some .int) 3 := ⟨⟨m_903, m_904, m_48, m_905⟩, by decide +kernel⟩
theorem kX9_credit : KV yX9_credit cX9_credit 3 (some .int) 1 := ⟨⟨m_907, m_908, m_48, m_909⟩, by decide +kernel⟩
theorem kX9_bill : KV yX9_bill cX9_bill 3 (some .int) 2 := ⟨⟨m_911, m_912, m_48, m_913⟩, by decide +kernel⟩
theorem kX9_pay : KV yX9_pay cX9_pay 3 (some .int) 2 := ⟨⟨m_915, m_916, m_48, m_917⟩, by decide +kernel⟩
theorem kX9_isBill : KV yX9_isBill cX9_isBill 2 (some .boolean) 1 := ⟨⟨m_920, m_39, m_48, m_921⟩, by decide +kernel⟩
theorem kX9_owed : KV yX9_owed cX9_owed 5 (some .int) 2 := ⟨⟨m_923, m_924, m_48, m_925⟩, by decide +kernel⟩
theorem kX9_owedOf : KV yX9_owedOf cX9_owedOf 4 (some .int) 2 := ⟨⟨m_928, m_40, m_48, m_929⟩, by decide +kernel⟩
theorem kX9_tell : KV yX9_tell cX9_tell 2 (some .int) 1 := ⟨⟨m_931, m_932, m_48, m_933⟩, by decide +kernel⟩
theorem kX9_check : KV yX9_check cX9_check 4 (some .int) 1 := ⟨⟨m_935, m_936, m_48, m_937⟩, by decide +kernel⟩
theorem kX9_count : KV yX9_count cX9_count 4 (some .int) 1 := ⟨⟨m_939, m_940, m_48, m_941⟩, by decide +kernel⟩
theorem kX9_found : KV yX9_found cX9_found 2 (some .int) 1 := ⟨⟨m_943, m_944, m_48, m_945⟩, by decide +kernel⟩
end
section
abbrev St : Type := Int32 × Int32 × Int32 × Int32 × Int32 × Int32 × Int32 × Int32 × Int32 × Int32 × (Nat → Int32) × (Nat → Int32) × (Nat → Int32) × (Nat → Int32) × (Nat → Int32) × (Nat → Int32) × (Nat → Int32) × (Nat → Int32) × (Nat → Int32) × (Nat → Int32) × (Nat → Int32) × (Nat → Int32) × (Nat → Int32) × (Nat → Int32) × (Nat → Int32)
def s_st (S : St) : Int32 := S.1
def u_st (S : St) (v : Int32) : St := (v, S.2)
def s_va (S : St) : Int32 := S.2.1
def u_va (S : St) (v : Int32) : St := (S.1, v, S.2.2)
def s_sd (S : St) : Int32 := S.2.2.1
def u_sd (S : St) (v : Int32) : St := (S.1, S.2.1, v, S.2.2.2)
def s_bi (S : St) : Int32 := S.2.2.2.1
def u_bi (S : St) (v : Int32) : St := (S.1, S.2.1, S.2.2.1, v, S.2.2.2.2)
def s_wa (S : St) : Int32 := S.2.2.2.2.1
def u_wa (S : St) (v : Int32) : St := (S.1, S.2.1, S.2.2.1, S.2.2.2.1, v, S.2.2.2.2.2)
def s_he (S : St) : Int32 := S.2.2.2.2.2.1
def u_he (S : St) (v : Int32) : St := (S.1, S.2.1, S.2.2.1, S.2.2.2.1, S.2.2.2.2.1, v, S.2.2.2.2.2.2)
def s_bf (S : St) : Int32 := S.2.2.2.2.2.2.1
def u_bf (S : St) (v : Int32) : St := (S.1, S.2.1, S.2.2.1, S.2.2.2.1, S.2.2.2.2.1, S.2.2.2.2.2.1, v, S.2.2.2.2.2.2.2)
def s_bt (S : St) : Int32 := S.2.2.2.2.2.2.2.1
def u_bt (S : St) (v : Int32) : St := (S.1, S.2.1, S.2.2.1, S.2.2.2.1, S.2.2.2.2.1, S.2.2.2.2.2.1, S.2.2.2.2.2.2.1, v, S.2.2.2.2.2.2.2.2)
def s_cm (S : St) : Int32 := S.2.2.2.2.2.2.2.2.1
def u_cm (S : St) (v : Int32) : St := (S.1, S.2.1, S.2.2.1, S.2.2.2.1, S.2.2.2.2.1, S.2.2.2.2.2.1, S.2.2.2.2.2.2.1, S.2.2.2.2.2.2.2.1, v, S.2.2.2.2.2.2.2.2.2)
def s_cr (S : St) : Int32 := S.2.2.2.2.2.2.2.2.2.1
def u_cr (S : St) (v : Int32) : St := (S.1, S.2.1, S.2.2.1, S.2.2.2.1, S.2.2.2.2.1, S.2.2.2.2.2.1, S.2.2.2.2.2.2.1, S.2.2.2.2.2.2.2.1, S.2.2.2.2.2.2.2.2.1, v, S.2.2.2.2.2.2.2.2.2.2)
def s_sc (S : St) : Nat → Int32 := S.2.2.2.2.2.2.2.2.2.2.1
def u_sc (S : St) (v : Nat → Int32) : St := (S.1, S.2.1, S.2.2.1, S.2.2.2.1, S.2.2.2.2.1, S.2.2.2.2.2.1, S.2.2.2.2.2.2.1, S.2.2.2.2.2.2.2.1, S.2.2.2.2.2.2.2.2.1, S.2.2.2.2.2.2.2.2.2.1, v, S.2.2.2.2.2.2.2.2.2.2.2)
def s_wy (S : St) : Nat → Int32 := S.2.2.2.2.2.2.2.2.2.2.2.1
def u_wy (S : St) (v : Nat → Int32) : St := (S.1, S.2.1, S.2.2.1, S.2.2.2.1, S.2.2.2.2.1, S.2.2.2.2.2.1, S.2.2.2.2.2.2.1, S.2.2.2.2.2.2.2.1, S.2.2.2.2.2.2.2.2.1, S.2.2.2.2.2.2.2.2.2.1, S.2.2.2.2.2.2.2.2.2.2.1, v, S.2.2.2.2.2.2.2.2.2.2.2.2)
def s_wi (S : St) : Nat → Int32 := S.2.2.2.2.2.2.2.2.2.2.2.2.1
def u_wi (S : St) (v : Nat → Int32) : St := (S.1, S.2.1, S.2.2.1, S.2.2.2.1, S.2.2.2.2.1, S.2.2.2.2.2.1, S.2.2.2.2.2.2.1, S.2.2.2.2.2.2.2.1, S.2.2.2.2.2.2.2.2.1, S.2.2.2.2.2.2.2.2.2.1, S.2.2.2.2.2.2.2.2.2.2.1, S.2.2.2.2.2.2.2.2.2.2.2.1, v, S.2.2.2.2.2.2.2.2.2.2.2.2.2)
def s_ki (S : St) : Nat → Int32 := S.2.2.2.2.2.2.2.2.2.2.2.2.2.1
def u_ki (S : St) (v : Nat → Int32) : St := (S.1, S.2.1, S.2.2.1, S.2.2.2.1, S.2.2.2.2.1, S.2.2.2.2.2.1, S.2.2.2.2.2.2.1, S.2.2.2.2.2.2.2.1, S.2.2.2.2.2.2.2.2.1, S.2.2.2.2.2.2.2.2.2.1, S.2.2.2.2.2.2.2.2.2.2.1, S.2.2.2.2.2.2.2.2.2.2.2.1, S.2.2.2.2.2.2.2.2.2.2.2.2.1, v, S.2.2.2.2.2.2.2.2.2.2.2.2.2.2)
def s_so (S : St) : Nat → Int32 := S.2.2.2.2.2.2.2.2.2.2.2.2.2.2.1
def u_so (S : St) (v : Nat → Int32) : St := (S.1, S.2.1, S.2.2.1, S.2.2.2.1, S.2.2.2.2.1, S.2.2.2.2.2.1, S.2.2.2.2.2.2.1, S.2.2.2.2.2.2.2.1, S.2.2.2.2.2.2.2.2.1, S.2.2.2.2.2.2.2.2.2.1, S.2.2.2.2.2.2.2.2.2.2.1, S.2.2.2.2.2.2.2.2.2.2.2.1, S.2.2.2.2.2.2.2.2.2.2.2.2.1, S.2.2.2.2.2.2.2.2.2.2.2.2.2.1, v, S.2.2.2.2.2.2.2.2.2.2.2.2.2.2.2)
def s_li (S : St) : Nat → Int32 := S.2.2.2.2.2.2.2.2.2.2.2.2.2.2.2.1
def u_li (S : St) (v : Nat → Int32) : St := (S.1, S.2.1, S.2.2.1, S.2.2.2.1, S.2.2.2.2.1, S.2.2.2.2.2.1, S.2.2.2.2.2.2.1, S.2.2.2.2.2.2.2.1, S.2.2.2.2.2.2.2.2.1, S.2.2.2.2.2.2.2.2.2.1, S.2.2.2.2.2.2.2.2.2.2.1, S.2.2.2.2.2.2.2.2.2.2.2.1, S.2.2.2.2.2.2.2.2.2.2.2.2.1, S.2.2.2.2.2.2.2.2.2.2.2.2.2.1, S.2.2.2.2.2.2.2.2.2.2.2.2.2.2.1, v, S.2.2.2.2.2.2.2.2.2.2.2.2.2.2.2.2)
def s_sv (S : St) : Nat → Int32 := S.2.2.2.2.2.2.2.2.2.2.2.2.2.2.2.2.1
def u_sv (S : St) (v : Nat → Int32) : St := (S.1, S.2.1, S.2.2.1, S.2.2.2.1, S.2.2.2.2.1, S.2.2.2.2.2.1, S.2.2.2.2.2.2.1, S.2.2.2.2.2.2.2.1, S.2.2.2.2.2.2.2.2.1, S.2.2.2.2.2.2.2.2.2.1, S.2.2.2.2.2.2.2.2.2.2.1, S.2.2.2.2.2.2.2.2.2.2.2.1, S.2.2.2.2.2.2.2.2.2.2.2.2.1, S.2.2.2.2.2.2.2.2.2.2.2.2.2.1, S.2.2.2.2.2.2.2.2.2.2.2.2.2.2.1, S.2.2.2.2.2.2.2.2.2.2.2.2.2.2.2.1, v, S.2.2.2.2.2.2.2.2.2.2.2.2.2.2.2.2.2)
def s_ss (S : St) : Nat → Int32 := S.2.2.2.2.2.2.2.2.2.2.2.2.2.2.2.2.2.1
def u_ss (S : St) (v : Nat → Int32) : St := (S.1, S.2.1, S.2.2.1, S.2.2.2.1, S.2.2.2.2.1, S.2.2.2.2.2.1, S.2.2.2.2.2.2.1, S.2.2.2.2.2.2.2.1, S.2.2.2.2.2.2.2.2.1, S.2.2.2.2.2.2.2.2.2.1, S.2.2.2.2.2.2.2.2.2.2.1, S.2.2.2.2.2.2.2.2.2.2.2.1, S.2.2.2.2.2.2.2.2.2.2.2.2.1, S.2.2.2.2.2.2.2.2.2.2.2.2.2.1, S.2.2.2.2.2.2.2.2.2.2.2.2.2.2.1, S.2.2.2.2.2.2.2.2.2.2.2.2.2.2.2.1, S.2.2.2.2.2.2.2.2.2.2.2.2.2.2.2.2.1, v, S.2.2.2.2.2.2.2.2.2.2.2.2.2.2.2.2.2.2)
def s_sh (S : St) : Nat → Int32 := S.2.2.2.2.2.2.2.2.2.2.2.2.2.2.2.2.2.2.1
def u_sh (S : St) (v : Nat → Int32) : St := (S.1, S.2.1, S.2.2.1, S.2.2.2.1, S.2.2.2.2.1, S.2.2.2.2.2.1, S.2.2.2.2.2.2.1, S.2.2.2.2.2.2.2.1, S.2.2.2.2.2.2.2.2.1, S.2.2.2.2.2.2.2.2.2.1, S.2.2.2.2.2.2.2.2.2.2.1, S.2.2.2.2.2.2.2.2.2.2.2.1, S.2.2.2.2.2.2.2.2.2.2.2.2.1, S.2.2.2.2.2.2.2.2.2.2.2.2.2.1, S.2.2.2.2.2.2.2.2.2.2.2.2.2.2.1, S.2.2.2.2.2.2.2.2.2.2.2.2.2.2.2.1, S.2.2.2.2.2.2.2.2.2.2.2.2.2.2.2.2.1, S.2.2.2.2.2.2.2.2.2.2.2.2.2.2.2.2.2.1, v, S.2.2.2.2.2.2.2.2.2.2.2.2.2.2.2.2.2.2.2)
def s_sm (S : St) : Nat → Int32 := S.2.2.2.2.2.2.2.2.2.2.2.2.2.2.2.2.2.2.2.1
def u_sm (S : St) (v : Nat → Int32) : St := (S.1, S.2.1, S.2.2.1, S.2.2.2.1, S.2.2.2.2.1, S.2.2.2.2.2.1, S.2.2.2.2.2.2.1, S.2.2.2.2.2.2.2.1, S.2.2.2.2.2.2.2.2.1, S.2.2.2.2.2.2.2.2.2.1, S.2.2.2.2.2.2.2.2.2.2.1, S.2.2.2.2.2.2.2.2.2.2.2.1, S.2.2.2.2.2.2.2.2.2.2.2.2.1, S.2.2.2.2.2.2.2.2.2.2.2.2.2.1, S.2.2.2.2.2.2.2.2.2.2.2.2.2.2.1, S.2.2.2.2.2.2.2.2.2.2.2.2.2.2.2.1, S.2.2.2.2.2.2.2.2.2.2.2.2.2.2.2.2.1, S.2.2.2.2.2.2.2.2.2.2.2.2.2.2.2.2.2.1, S.2.2.2.2.2.2.2.2.2.2.2.2.2.2.2.2.2.2.1, v, S.2.2.2.2.2.2.2.2.2.2.2.2.2.2.2.2.2.2.2.2)
def s_le (S : St) : Nat → Int32 := S.2.2.2.2.2.2.2.2.2.2.2.2.2.2.2.2.2.2.2.2.1
def u_le (S : St) (v : Nat → Int32) : St := (S.1, S.2.1, S.2.2.1, S.2.2.2.1, S.2.2.2.2.1, S.2.2.2.2.2.1, S.2.2.2.2.2.2.1, S.2.2.2.2.2.2.2.1, S.2.2.2.2.2.2.2.2.1, S.2.2.2.2.2.2.2.2.2.1, S.2.2.2.2.2.2.2.2.2.2.1, S.2.2.2.2.2.2.2.2.2.2.2.1, S.2.2.2.2.2.2.2.2.2.2.2.2.1, S.2.2.2.2.2.2.2.2.2.2.2.2.2.1, S.2.2.2.2.2.2.2.2.2.2.2.2.2.2.1, S.2.2.2.2.2.2.2.2.2.2.2.2.2.2.2.1, S.2.2.2.2.2.2.2.2.2.2.2.2.2.2.2.2.1, S.2.2.2.2.2.2.2.2.2.2.2.2.2.2.2.2.2.1, S.2.2.2.2.2.2.2.2.2.2.2.2.2.2.2.2.2.2.1, S.2.2.2.2.2.2.2.2.2.2.2.2.2.2.2.2.2.2.2.1, v, S.2.2.2.2.2.2.2.2.2.2.2.2.2.2.2.2.2.2.2.2.2)
def s_bd (S : St) : Nat → Int32 := S.2.2.2.2.2.2.2.2.2.2.2.2.2.2.2.2.2.2.2.2.2.1
def u_bd (S : St) (v : Nat → Int32) : St := (S.1, S.2.1, S.2.2.1, S.2.2.2.1, S.2.2.2.2.1, S.2.2.2.2.2.1, S.2.2.2.2.2.2.1, S.2.2.2.2.2.2.2.1, S.2.2.2.2.2.2.2.2.1, S.2.2.2.2.2.2.2.2.2.1, S.2.2.2.2.2.2.2.2.2.2.1, S.2.2.2.2.2.2.2.2.2.2.2.1, S.2.2.2.2.2.2.2.2.2.2.2.2.1, S.2.2.2.2.2.2.2.2.2.2.2.2.2.1, S.2.2.2.2.2.2.2.2.2.2.2.2.2.2.1, S.2.2.2.2.2.2.2.2.2.2.2.2.2.2.2.1, S.2.2.2.2.2.2.2.2.2.2.2.2.2.2.2.2.1, S.2.2.2.2.2.2.2.2.2.2.2.2.2.2.2.2.2.1, S.2.2.2.2.2.2.2.2.2.2.2.2.2.2.2.2.2.2.1, S.2.2.2.2.2.2.2.2.2.2.2.2.2.2.2.2.2.2.2.1, S.2.2.2.2.2.2.2.2.2.2.2.2.2.2.2.2.2.2.2.2.1, v, S.2.2.2.2.2.2.2.2.2.2.2.2.2.2.2.2.2.2.2.2.2.2)
def s_du (S : St) : Nat → Int32 := S.2.2.2.2.2.2.2.2.2.2.2.2.2.2.2.2.2.2.2.2.2.2.1
def u_du (S : St) (v : Nat → Int32) : St := (S.1, S.2.1, S.2.2.1, S.2.2.2.1, S.2.2.2.2.1, S.2.2.2.2.2.1, S.2.2.2.2.2.2.1, S.2.2.2.2.2.2.2.1, S.2.2.2.2.2.2.2.2.1, S.2.2.2.2.2.2.2.2.2.1, S.2.2.2.2.2.2.2.2.2.2.1, S.2.2.2.2.2.2.2.2.2.2.2.1, S.2.2.2.2.2.2.2.2.2.2.2.2.1, S.2.2.2.2.2.2.2.2.2.2.2.2.2.1, S.2.2.2.2.2.2.2.2.2.2.2.2.2.2.1, S.2.2.2.2.2.2.2.2.2.2.2.2.2.2.2.1, S.2.2.2.2.2.2.2.2.2.2.2.2.2.2.2.2.1, S.2.2.2.2.2.2.2.2.2.2.2.2.2.2.2.2.2.1, S.2.2.2.2.2.2.2.2.2.2.2.2.2.2.2.2.2.2.1, S.2.2.2.2.2.2.2.2.2.2.2.2.2.2.2.2.2.2.2.1, S.2.2.2.2.2.2.2.2.2.2.2.2.2.2.2.2.2.2.2.2.1, S.2.2.2.2.2.2.2.2.2.2.2.2.2.2.2.2.2.2.2.2.2.1, v, S.2.2.2.2.2.2.2.2.2.2.2.2.2.2.2.2.2.2.2.2.2.2.2)
def s_wt (S : St) : Nat → Int32 := S.2.2.2.2.2.2.2.2.2.2.2.2.2.2.2.2.2.2.2.2.2.2.2.1
def u_wt (S : St) (v : Nat → Int32) : St := (S.1, S.2.1, S.2.2.1, S.2.2.2.1, S.2.2.2.2.1, S.2.2.2.2.2.1, S.2.2.2.2.2.2.1, S.2.2.2.2.2.2.2.1, S.2.2.2.2.2.2.2.2.1, S.2.2.2.2.2.2.2.2.2.1, S.2.2.2.2.2.2.2.2.2.2.1, S.2.2.2.2.2.2.2.2.2.2.2.1, S.2.2.2.2.2.2.2.2.2.2.2.2.1, S.2.2.2.2.2.2.2.2.2.2.2.2.2.1, S.2.2.2.2.2.2.2.2.2.2.2.2.2.2.1, S.2.2.2.2.2.2.2.2.2.2.2.2.2.2.2.1, S.2.2.2.2.2.2.2.2.2.2.2.2.2.2.2.2.1, S.2.2.2.2.2.2.2.2.2.2.2.2.2.2.2.2.2.1, S.2.2.2.2.2.2.2.2.2.2.2.2.2.2.2.2.2.2.1, S.2.2.2.2.2.2.2.2.2.2.2.2.2.2.2.2.2.2.2.1, S.2.2.2.2.2.2.2.2.2.2.2.2.2.2.2.2.2.2.2.2.1, S.2.2.2.2.2.2.2.2.2.2.2.2.2.2.2.2.2.2.2.2.2.1, S.2.2.2.2.2.2.2.2.2.2.2.2.2.2.2.2.2.2.2.2.2.2.1, v, S.2.2.2.2.2.2.2.2.2.2.2.2.2.2.2.2.2.2.2.2.2.2.2.2)
def s_co (S : St) : Nat → Int32 := S.2.2.2.2.2.2.2.2.2.2.2.2.2.2.2.2.2.2.2.2.2.2.2.2
def u_co (S : St) (v : Nat → Int32) : St := (S.1, S.2.1, S.2.2.1, S.2.2.2.1, S.2.2.2.2.1, S.2.2.2.2.2.1, S.2.2.2.2.2.2.1, S.2.2.2.2.2.2.2.1, S.2.2.2.2.2.2.2.2.1, S.2.2.2.2.2.2.2.2.2.1, S.2.2.2.2.2.2.2.2.2.2.1, S.2.2.2.2.2.2.2.2.2.2.2.1, S.2.2.2.2.2.2.2.2.2.2.2.2.1, S.2.2.2.2.2.2.2.2.2.2.2.2.2.1, S.2.2.2.2.2.2.2.2.2.2.2.2.2.2.1, S.2.2.2.2.2.2.2.2.2.2.2.2.2.2.2.1, S.2.2.2.2.2.2.2.2.2.2.2.2.2.2.2.2.1, S.2.2.2.2.2.2.2.2.2.2.2.2.2.2.2.2.2.1, S.2.2.2.2.2.2.2.2.2.2.2.2.2.2.2.2.2.2.1, S.2.2.2.2.2.2.2.2.2.2.2.2.2.2.2.2.2.2.2.1, S.2.2.2.2.2.2.2.2.2.2.2.2.2.2.2.2.2.2.2.2.1, S.2.2.2.2.2.2.2.2.2.2.2.2.2.2.2.2.2.2.2.2.2.1, S.2.2.2.2.2.2.2.2.2.2.2.2.2.2.2.2.2.2.2.2.2.2.1, S.2.2.2.2.2.2.2.2.2.2.2.2.2.2.2.2.2.2.2.2.2.2.2.1, v)
abbrev XC : Type := Int32 × Int32 × Int32 × Int32 × Int32 × Int32 × (Nat → Int32) × (Nat → Int32) × (Nat → Int32) × (Nat → Int32)
def x_tn (X : XC) : Int32 := X.1
def v_tn (X : XC) (v : Int32) : XC := (v, X.2)
def x_tk (X : XC) : Int32 := X.2.1
def v_tk (X : XC) (v : Int32) : XC := (X.1, v, X.2.2)
def x_tl (X : XC) : Int32 := X.2.2.1
def v_tl (X : XC) (v : Int32) : XC := (X.1, X.2.1, v, X.2.2.2)
def x_bn (X : XC) : Int32 := X.2.2.2.1
def v_bn (X : XC) (v : Int32) : XC := (X.1, X.2.1, X.2.2.1, v, X.2.2.2.2)
def x_bk (X : XC) : Int32 := X.2.2.2.2.1
def v_bk (X : XC) (v : Int32) : XC := (X.1, X.2.1, X.2.2.1, X.2.2.2.1, v, X.2.2.2.2.2)
def x_bl (X : XC) : Int32 := X.2.2.2.2.2.1
def v_bl (X : XC) (v : Int32) : XC := (X.1, X.2.1, X.2.2.1, X.2.2.2.1, X.2.2.2.2.1, v, X.2.2.2.2.2.2)
def x_ts (X : XC) : Nat → Int32 := X.2.2.2.2.2.2.1
def v_ts (X : XC) (v : Nat → Int32) : XC := (X.1, X.2.1, X.2.2.1, X.2.2.2.1, X.2.2.2.2.1, X.2.2.2.2.2.1, v, X.2.2.2.2.2.2.2)
def x_th (X : XC) : Nat → Int32 := X.2.2.2.2.2.2.2.1
def v_th (X : XC) (v : Nat → Int32) : XC := (X.1, X.2.1, X.2.2.1, X.2.2.2.1, X.2.2.2.2.1, X.2.2.2.2.2.1, X.2.2.2.2.2.2.1, v, X.2.2.2.2.2.2.2.2)
def x_bs (X : XC) : Nat → Int32 := X.2.2.2.2.2.2.2.2.1
def v_bs (X : XC) (v : Nat → Int32) : XC := (X.1, X.2.1, X.2.2.1, X.2.2.2.1, X.2.2.2.2.1, X.2.2.2.2.2.1, X.2.2.2.2.2.2.1, X.2.2.2.2.2.2.2.1, v, X.2.2.2.2.2.2.2.2.2)
def x_bh (X : XC) : Nat → Int32 := X.2.2.2.2.2.2.2.2.2
def v_bh (X : XC) (v : Nat → Int32) : XC := (X.1, X.2.1, X.2.2.1, X.2.2.2.1, X.2.2.2.2.1, X.2.2.2.2.2.1, X.2.2.2.2.2.2.1, X.2.2.2.2.2.2.2.1, X.2.2.2.2.2.2.2.2.1, v)
abbrev YM : Type := Int32 × Int32 × Int32 × (Nat → Int32) × (Nat → Int32) × (Nat → Int32) × (Nat → Int32) × (Nat → Int32) × (Nat → Int32) × (Nat → Int32)
def y_bm (Y : YM) : Int32 := Y.1
def z_bm (Y : YM) (v : Int32) : YM := (v, Y.2)
def y_bl (Y : YM) : Int32 := Y.2.1
def z_bl (Y : YM) (v : Int32) : YM := (Y.1, v, Y.2.2)
def y_bk (Y : YM) : Int32 := Y.2.2.1
def z_bk (Y : YM) (v : Int32) : YM := (Y.1, Y.2.1, v, Y.2.2.2)
def y_rs (Y : YM) : Nat → Int32 := Y.2.2.2.1
def z_rs (Y : YM) (v : Nat → Int32) : YM := (Y.1, Y.2.1, Y.2.2.1, v, Y.2.2.2.2)
def y_rh (Y : YM) : Nat → Int32 := Y.2.2.2.2.1
def z_rh (Y : YM) (v : Nat → Int32) : YM := (Y.1, Y.2.1, Y.2.2.1, Y.2.2.2.1, v, Y.2.2.2.2.2)
def y_so (Y : YM) : Nat → Int32 := Y.2.2.2.2.2.1
def z_so (Y : YM) (v : Nat → Int32) : YM := (Y.1, Y.2.1, Y.2.2.1, Y.2.2.2.1, Y.2.2.2.2.1, v, Y.2.2.2.2.2.2)
def y_ke (Y : YM) : Nat → Int32 := Y.2.2.2.2.2.2.1
def z_ke (Y : YM) (v : Nat → Int32) : YM := (Y.1, Y.2.1, Y.2.2.1, Y.2.2.2.1, Y.2.2.2.2.1, Y.2.2.2.2.2.1, v, Y.2.2.2.2.2.2.2)
def y_tr (Y : YM) : Nat → Int32 := Y.2.2.2.2.2.2.2.1
def z_tr (Y : YM) (v : Nat → Int32) : YM := (Y.1, Y.2.1, Y.2.2.1, Y.2.2.2.1, Y.2.2.2.2.1, Y.2.2.2.2.2.1, Y.2.2.2.2.2.2.1, v, Y.2.2.2.2.2.2.2.2)
def y_bs (Y : YM) : Nat → Int32 := Y.2.2.2.2.2.2.2.2.1
def z_bs (Y : YM) (v : Nat → Int32) : YM := (Y.1, Y.2.1, Y.2.2.1, Y.2.2.2.1, Y.2.2.2.2.1, Y.2.2.2.2.2.1, Y.2.2.2.2.2.2.1, Y.2.2.2.2.2.2.2.1, v, Y.2.2.2.2.2.2.2.2.2)
def y_bh (Y : YM) : Nat → Int32 := Y.2.2.2.2.2.2.2.2.2
def z_bh (Y : YM) (v : Nat → Int32) : YM := (Y.1, Y.2.1, Y.2.2.1, Y.2.2.2.1, Y.2.2.2.2.1, Y.2.2.2.2.2.1, Y.2.2.2.2.2.2.1, Y.2.2.2.2.2.2.2.1, Y.2.2.2.2.2.2.2.2.1, v)
def ar (f : Nat → Int32) (i : Int32) : Int32 := f i.toNatClampNeg
def au (f : Nat → Int32) (i x : Int32) : Nat → Int32 := upd f i.toNatClampNeg x
def kc (k : Int32) : Nat := if k = 1 then 0 else if k = 2 then 2 else 7
theorem kc_c (k : Int32) : (k = 1 ∧ kc k = 0) ∨ (k = 2 ∧ kc k = 2) ∨ ((¬ k = 1 ∧ ¬ k = 2) ∧ kc k = 7) := by
  unfold kc
  by_cases h1 : k = 1
  · exact Or.inl ⟨h1, if_pos h1⟩
  · by_cases h2 : k = 2
    · exact Or.inr (Or.inl ⟨h2, by rw [if_neg h1, if_pos h2]⟩)
    · exact Or.inr (Or.inr ⟨⟨h1, h2⟩, by rw [if_neg h1, if_neg h2]⟩)
def vn (S : St) : Nat := (s_va S).toNatClampNeg
def vf (q : Nat → Nat) (S : St) : Nat → Option Nat := fun i => if i < vn S then some (q (24 + i)) else none
def vanL (q : Nat → Nat) (S : St) : va_W := (List.range (vn S)).map (fun i => (q (24 + i), .inr (kc (s_ki S i), [.int (s_so S i), .int (s_li S i)])))
def CF (Z : ZT) (q : Nat → Nat) (S : St) (X : XC) : va_W := [(q 0, .inr (8, [.ref (q 1), .ref (q 2), .ref (q 3), .ref (q 4), .int (s_va S), .ref (q 5), .ref (q 6), .ref (q 7), .ref (q 8), .ref (q 9), .int (s_wa S)])), (q 1, .inl (Z.2.1, 6, .inl (s_co S))), (q 2, .inr (5, [.ref (q 10), .ref (q 11), .ref (q 12), .int (s_st S), .int (s_he S)])), (q 3, .inr (3, [.int (s_bf S), .int (s_bt S), .int (s_cm S)])), (q 4, .inl (Z.2.2.2, 4, .inr (.inr (.inr (.inr (vf q S)))))), (q 5, .inr (6, [.ref (q 13), .ref (q 14), .int (x_tn X), .int (x_tk X), .int (x_tl X)])), (q 6, .inr (6, [.ref (q 15), .ref (q 16), .int (x_bn X), .int (x_bk X), .int (x_bl X)])), (q 7, .inr (4, [.ref (q 17), .ref (q 18), .ref (q 19), .ref (q 20), .int (s_sd S)])), (q 8, .inr (1, [.ref (q 21), .ref (q 22), .ref (q 23), .int (s_bi S), .int (s_cr S)])), (q 9, .inl (Z.2.1, 12, .inl (s_wt S))), (q 10, .inl (Z.2.2.1, 6, .inl (s_sc S))), (q 11, .inl (Z.2.1, 36, .inl (s_wy S))), (q 12, .inl (Z.2.1, 72, .inl (s_wi S))), (q 13, .inl (Z.2.1, 12, .inl (x_ts X))), (q 14, .inl (Z.2.1, 12, .inl (x_th X))), (q 15, .inl (Z.2.1, 12, .inl (x_bs X))), (q 16, .inl (Z.2.1, 12, .inl (x_bh X))), (q 17, .inl (Z.2.1, 24, .inl (s_sv S))), (q 18, .inl (Z.2.1, 24, .inl (s_ss S))), (q 19, .inl (Z.2.1, 24, .inl (s_sh S))), (q 20, .inl (Z.2.1, 24, .inl (s_sm S))), (q 21, .inl (Z.2.1, 12, .inl (s_le S))), (q 22, .inl (Z.2.1, 12, .inl (s_bd S))), (q 23, .inl (Z.2.1, 12, .inl (s_du S)))]
def CW (Z : ZT) (q : Nat → Nat) (S : St) (X : XC) : va_W := CF Z q S X ++ vanL q S
def MW (Z : ZT) (q : Nat → Nat) (S : St) (Y : YM) : va_W := [(q 0, .inr (9, [.int (s_st S), .int (s_va S), .int (s_sd S), .int (s_bi S), .int (s_wa S), .int (s_he S), .int (s_bf S), .int (s_bt S), .int (s_cm S), .int (s_cr S), .ref (q 1), .ref (q 2), .ref (q 3), .ref (q 4), .ref (q 5), .ref (q 6), .ref (q 7), .ref (q 8), .ref (q 9), .ref (q 10), .ref (q 11), .ref (q 12), .ref (q 13), .ref (q 14), .ref (q 15), .ref (q 16), .ref (q 17), .ref (q 18), .ref (q 19), .ref (q 20), .ref (q 21), .ref (q 22), .int (y_bm Y), .int (y_bl Y), .int (y_bk Y)])), (q 1, .inl (Z.2.1, 6, .inl (s_sc S))), (q 2, .inl (Z.2.1, 36, .inl (s_wy S))), (q 3, .inl (Z.2.1, 72, .inl (s_wi S))), (q 4, .inl (Z.2.1, 4, .inl (s_ki S))), (q 5, .inl (Z.2.1, 4, .inl (s_so S))), (q 6, .inl (Z.2.1, 4, .inl (s_li S))), (q 7, .inl (Z.2.1, 24, .inl (s_sv S))), (q 8, .inl (Z.2.1, 24, .inl (s_ss S))), (q 9, .inl (Z.2.1, 24, .inl (s_sh S))), (q 10, .inl (Z.2.1, 24, .inl (s_sm S))), (q 11, .inl (Z.2.1, 12, .inl (s_le S))), (q 12, .inl (Z.2.1, 12, .inl (s_bd S))), (q 13, .inl (Z.2.1, 12, .inl (s_du S))), (q 14, .inl (Z.2.1, 12, .inl (s_wt S))), (q 15, .inl (Z.2.1, 6, .inl (s_co S))), (q 16, .inl (Z.2.1, 12, .inl (y_rs Y))), (q 17, .inl (Z.2.1, 12, .inl (y_rh Y))), (q 18, .inl (Z.2.1, 12, .inl (y_so Y))), (q 19, .inl (Z.2.1, 12, .inl (y_ke Y))), (q 20, .inl (Z.2.1, 12, .inl (y_tr Y))), (q 21, .inl (Z.2.1, 6, .inl (y_bs Y))), (q 22, .inl (Z.2.1, 6, .inl (y_bh Y)))]
section RC
variable {p : Program} {l : Launch} {e : Env} {R : Room} {s : State} {m : MethodId} {args : Array Value} {below : List Frame} {meth : Method} {c : Code} {H H0 : Heap} {locs : List Loc} {cells slots : Nat} {Q : State → Prop} {cc : ByteArray} {nL pc : Nat} {own : String} {Z : ZT} {A : Nat → Prop} {ls : Array Slot} {rest : List Value} {q : Nat → Nat} {S : St} {X : XC}
theorem gC_0_0 (E : EW p m c cc nL s args own Z) (G : GW Z (CW Z q S X) A H0 H locs) {idx : Nat} (hl : Cond.fieldLink own idx "ConeRounds" "findings" "[I" ∈ wU) (hdg : decode cc pc = .ok (.getfield idx, 3)) (kk : W p l e R s m args below meth c H locs cells slots Q (F0 m (pc + 3) ls (.ref (q 1) :: rest))) : W p l e R s m args below meth c H locs cells slots Q (F0 m pc ls (.ref (q 0) :: rest)) := r_get E G 0 rfl rfl inU8 0 (by decide) hl rfl rfl hdg kk
theorem gC_0_1 (E : EW p m c cc nL s args own Z) (G : GW Z (CW Z q S X) A H0 H locs) {idx : Nat} (hl : Cond.fieldLink own idx "ConeRounds" "town" "LConeRounds$Town;" ∈ wU) (hdg : decode cc pc = .ok (.getfield idx, 3)) (kk : W p l e R s m args below meth c H locs cells slots Q (F0 m (pc + 3) ls (.ref (q 2) :: rest))) : W p l e R s m args below meth c H locs cells slots Q (F0 m pc ls (.ref (q 0) :: rest)) := r_get E G 0 rfl rfl inU8 1 (by decide) hl rfl rfl hdg kk
theorem gC_0_2 (E : EW p m c cc nL s args own Z) (G : GW Z (CW Z q S X) A H0 H locs) {idx : Nat} (hl : Cond.fieldLink own idx "ConeRounds" "rules" "LConeRounds$Law;" ∈ wU) (hdg : decode cc pc = .ok (.getfield idx, 3)) (kk : W p l e R s m args below meth c H locs cells slots Q (F0 m (pc + 3) ls (.ref (q 3) :: rest))) : W p l e R s m args below meth c H locs cells slots Q (F0 m pc ls (.ref (q 0) :: rest)) := r_get E G 0 rfl rfl inU8 2 (by decide) hl rfl rfl hdg kk
theorem gC_0_3 (E : EW p m c cc nL s args own Z) (G : GW Z (CW Z q S X) A H0 H locs) {idx : Nat} (hl : Cond.fieldLink own idx "ConeRounds" "vans" "[LConeRounds$Van;" ∈ wU) (hdg : decode cc pc = .ok (.getfield idx, 3)) (kk : W p l e R s m args below meth c H locs cells slots Q (F0 m (pc + 3) ls (.ref (q 4) :: rest))) : W p l e R s m args below meth c H locs cells slots Q (F0 m pc ls (.ref (q 0) :: rest)) := r_get E G 0 rfl rfl inU8 3 (by decide) hl rfl rfl hdg kk
theorem gC_0_4 (E : EW p m c cc nL s args own Z) (G : GW Z (CW Z q S X) A H0 H locs) {idx : Nat} (hl : Cond.fieldLink own idx "ConeRounds" "vanCount" "I" ∈ wU) (hdg : decode cc pc = .ok (.getfield idx, 3)) (kk : W p l e R s m args below meth c H locs cells slots Q (F0 m (pc + 3) ls (.int (s_va S) :: rest))) : W p l e R s m args below meth c H locs cells slots Q (F0 m pc ls (.ref (q 0) :: rest)) := r_get E G 0 rfl rfl inU8 4 (by decide) hl rfl rfl hdg kk
theorem gC_0_5 (E : EW p m c cc nL s args own Z) (G : GW Z (CW Z q S X) A H0 H locs) {idx : Nat} (hl : Cond.fieldLink own idx "ConeRounds" "trail" "LConeRounds$Trail;" ∈ wU) (hdg : decode cc pc = .ok (.getfield idx, 3)) (kk : W p l e R s m args below meth c H locs cells slots Q (F0 m (pc + 3) ls (.ref (q 5) :: rest))) : W p l e R s m args below meth c H locs cells slots Q (F0 m pc ls (.ref (q 0) :: rest)) := r_get E G 0 rfl rfl inU8 5 (by decide) hl rfl rfl hdg kk
theorem gC_0_6 (E : EW p m c cc nL s args own Z) (G : GW Z (CW Z q S X) A H0 H locs) {idx : Nat} (hl : Cond.fieldLink own idx "ConeRounds" "best" "LConeRounds$Trail;" ∈ wU) (hdg : decode cc pc = .ok (.getfield idx, 3)) (kk : W p l e R s m args below meth c H locs cells slots Q (F0 m (pc + 3) ls (.ref (q 6) :: rest))) : W p l e R s m args below meth c H locs cells slots Q (F0 m pc ls (.ref (q 0) :: rest)) := r_get E G 0 rfl rfl inU8 6 (by decide) hl rfl rfl hdg kk
theorem gC_0_7 (E : EW p m c cc nL s args own Z) (G : GW Z (CW Z q S X) A H0 H locs) {idx : Nat} (hl : Cond.fieldLink own idx "ConeRounds" "stands" "LConeRounds$Stands;" ∈ wU) (hdg : decode cc pc = .ok (.getfield idx, 3)) (kk : W p l e R s m args below meth c H locs cells slots Q (F0 m (pc + 3) ls (.ref (q 7) :: rest))) : W p l e R s m args below meth c H locs cells slots Q (F0 m pc ls (.ref (q 0) :: rest)) := r_get E G 0 rfl rfl inU8 7 (by decide) hl rfl rfl hdg kk
theorem gC_0_8 (E : EW p m c cc nL s args own Z) (G : GW Z (CW Z q S X) A H0 H locs) {idx : Nat} (hl : Cond.fieldLink own idx "ConeRounds" "bills" "LConeRounds$Bills;" ∈ wU) (hdg : decode cc pc = .ok (.getfield idx, 3)) (kk : W p l e R s m args below meth c H locs cells slots Q (F0 m (pc + 3) ls (.ref (q 8) :: rest))) : W p l e R s m args below meth c H locs cells slots Q (F0 m pc ls (.ref (q 0) :: rest)) := r_get E G 0 rfl rfl inU8 8 (by decide) hl rfl rfl hdg kk
theorem gC_0_9 (E : EW p m c cc nL s args own Z) (G : GW Z (CW Z q S X) A H0 H locs) {idx : Nat} (hl : Cond.fieldLink own idx "ConeRounds" "waiting" "[I" ∈ wU) (hdg : decode cc pc = .ok (.getfield idx, 3)) (kk : W p l e R s m args below meth c H locs cells slots Q (F0 m (pc + 3) ls (.ref (q 9) :: rest))) : W p l e R s m args below meth c H locs cells slots Q (F0 m pc ls (.ref (q 0) :: rest)) := r_get E G 0 rfl rfl inU8 9 (by decide) hl rfl rfl hdg kk
theorem gC_0_10 (E : EW p m c cc nL s args own Z) (G : GW Z (CW Z q S X) A H0 H locs) {idx : Nat} (hl : Cond.fieldLink own idx "ConeRounds" "waitingCount" "I" ∈ wU) (hdg : decode cc pc = .ok (.getfield idx, 3)) (kk : W p l e R s m args below meth c H locs cells slots Q (F0 m (pc + 3) ls (.int (s_wa S) :: rest))) : W p l e R s m args below meth c H locs cells slots Q (F0 m pc ls (.ref (q 0) :: rest)) := r_get E G 0 rfl rfl inU8 10 (by decide) hl rfl rfl hdg kk
theorem pC_0_10 (E : EW p m c cc nL s args own Z) (G : GW Z (CW Z q S X) A H0 H locs) {idx : Nat} (hl : Cond.fieldLink own idx "ConeRounds" "waitingCount" "I" ∈ wU) {v : Int32} (hdg : decode cc pc = .ok (.putfield idx, 3)) (kk : ∀ (H1 : Heap) (locs1 : List Loc), GW Z (CW Z q (u_wa S v) X) A H0 H1 locs1 → W p l e R s m args below meth c H1 locs1 cells slots Q (F0 m (pc + 3) ls rest)) : W p l e R s m args below meth c H locs cells slots Q (F0 m pc ls (.int v :: .ref (q 0) :: rest)) := r_put E G 0 rfl rfl inU8 tyX8_ok nmX8 10 (by decide) hl rfl rfl rfl (Nat.le_of_ble_eq_true rfl) rfl hdg kk
theorem gC_2_0 (E : EW p m c cc nL s args own Z) (G : GW Z (CW Z q S X) A H0 H locs) {idx : Nat} (hl : Cond.fieldLink own idx "ConeRounds$Town" "schools" "[Z" ∈ wU) (hdg : decode cc pc = .ok (.getfield idx, 3)) (kk : W p l e R s m args below meth c H locs cells slots Q (F0 m (pc + 3) ls (.ref (q 10) :: rest))) : W p l e R s m args below meth c H locs cells slots Q (F0 m pc ls (.ref (q 2) :: rest)) := r_get E G 2 rfl rfl inU5 0 (by decide) hl rfl rfl hdg kk
theorem gC_2_1 (E : EW p m c cc nL s args own Z) (G : GW Z (CW Z q S X) A H0 H locs) {idx : Nat} (hl : Cond.fieldLink own idx "ConeRounds$Town" "ways" "[I" ∈ wU) (hdg : decode cc pc = .ok (.getfield idx, 3)) (kk : W p l e R s m args below meth c H locs cells slots Q (F0 m (pc + 3) ls (.ref (q 11) :: rest))) : W p l e R s m args below meth c H locs cells slots Q (F0 m pc ls (.ref (q 2) :: rest)) := r_get E G 2 rfl rfl inU5 1 (by decide) hl rfl rfl hdg kk
theorem gC_2_2 (E : EW p m c cc nL s args own Z) (G : GW Z (CW Z q S X) A H0 H locs) {idx : Nat} (hl : Cond.fieldLink own idx "ConeRounds$Town" "wishes" "[I" ∈ wU) (hdg : decode cc pc = .ok (.getfield idx, 3)) (kk : W p l e R s m args below meth c H locs cells slots Q (F0 m (pc + 3) ls (.ref (q 12) :: rest))) : W p l e R s m args below meth c H locs cells slots Q (F0 m pc ls (.ref (q 2) :: rest)) := r_get E G 2 rfl rfl inU5 2 (by decide) hl rfl rfl hdg kk
theorem gC_2_3 (E : EW p m c cc nL s args own Z) (G : GW Z (CW Z q S X) A H0 H locs) {idx : Nat} (hl : Cond.fieldLink own idx "ConeRounds$Town" "size" "I" ∈ wU) (hdg : decode cc pc = .ok (.getfield idx, 3)) (kk : W p l e R s m args below meth c H locs cells slots Q (F0 m (pc + 3) ls (.int (s_st S) :: rest))) : W p l e R s m args below meth c H locs cells slots Q (F0 m pc ls (.ref (q 2) :: rest)) := r_get E G 2 rfl rfl inU5 3 (by decide) hl rfl rfl hdg kk
theorem pC_2_3 (E : EW p m c cc nL s args own Z) (G : GW Z (CW Z q S X) A H0 H locs) {idx : Nat} (hl : Cond.fieldLink own idx "ConeRounds$Town" "size" "I" ∈ wU) {v : Int32} (hdg : decode cc pc = .ok (.putfield idx, 3)) (kk : ∀ (H1 : Heap) (locs1 : List Loc), GW Z (CW Z q (u_st S v) X) A H0 H1 locs1 → W p l e R s m args below meth c H1 locs1 cells slots Q (F0 m (pc + 3) ls rest)) : W p l e R s m args below meth c H locs cells slots Q (F0 m pc ls (.int v :: .ref (q 2) :: rest)) := r_put E G 2 rfl rfl inU5 tyX5_ok nmX5 3 (by decide) hl rfl rfl rfl (Nat.le_of_ble_eq_true rfl) rfl hdg kk
theorem gC_2_4 (E : EW p m c cc nL s args own Z) (G : GW Z (CW Z q S X) A H0 H locs) {idx : Nat} (hl : Cond.fieldLink own idx "ConeRounds$Town" "heat" "I" ∈ wU) (hdg : decode cc pc = .ok (.getfield idx, 3)) (kk : W p l e R s m args below meth c H locs cells slots Q (F0 m (pc + 3) ls (.int (s_he S) :: rest))) : W p l e R s m args below meth c H locs cells slots Q (F0 m pc ls (.ref (q 2) :: rest)) := r_get E G 2 rfl rfl inU5 4 (by decide) hl rfl rfl hdg kk
theorem pC_2_4 (E : EW p m c cc nL s args own Z) (G : GW Z (CW Z q S X) A H0 H locs) {idx : Nat} (hl : Cond.fieldLink own idx "ConeRounds$Town" "heat" "I" ∈ wU) {v : Int32} (hdg : decode cc pc = .ok (.putfield idx, 3)) (kk : ∀ (H1 : Heap) (locs1 : List Loc), GW Z (CW Z q (u_he S v) X) A H0 H1 locs1 → W p l e R s m args below meth c H1 locs1 cells slots Q (F0 m (pc + 3) ls rest)) : W p l e R s m args below meth c H locs cells slots Q (F0 m pc ls (.int v :: .ref (q 2) :: rest)) := r_put E G 2 rfl rfl inU5 tyX5_ok nmX5 4 (by decide) hl rfl rfl rfl (Nat.le_of_ble_eq_true rfl) rfl hdg kk
theorem gC_3_0 (E : EW p m c cc nL s args own Z) (G : GW Z (CW Z q S X) A H0 H locs) {idx : Nat} (hl : Cond.fieldLink own idx "ConeRounds$Law" "from" "I" ∈ wU) (hdg : decode cc pc = .ok (.getfield idx, 3)) (kk : W p l e R s m args below meth c H locs cells slots Q (F0 m (pc + 3) ls (.int (s_bf S) :: rest))) : W p l e R s m args below meth c H locs cells slots Q (F0 m pc ls (.ref (q 3) :: rest)) := r_get E G 3 rfl rfl inU3 0 (by decide) hl rfl rfl hdg kk
theorem pC_3_0 (E : EW p m c cc nL s args own Z) (G : GW Z (CW Z q S X) A H0 H locs) {idx : Nat} (hl : Cond.fieldLink own idx "ConeRounds$Law" "from" "I" ∈ wU) {v : Int32} (hdg : decode cc pc = .ok (.putfield idx, 3)) (kk : ∀ (H1 : Heap) (locs1 : List Loc), GW Z (CW Z q (u_bf S v) X) A H0 H1 locs1 → W p l e R s m args below meth c H1 locs1 cells slots Q (F0 m (pc + 3) ls rest)) : W p l e R s m args below meth c H locs cells slots Q (F0 m pc ls (.int v :: .ref (q 3) :: rest)) := r_put E G 3 rfl rfl inU3 tyX3_ok nmX3 0 (by decide) hl rfl rfl rfl (Nat.le_of_ble_eq_true rfl) rfl hdg kk
theorem gC_3_1 (E : EW p m c cc nL s args own Z) (G : GW Z (CW Z q S X) A H0 H locs) {idx : Nat} (hl : Cond.fieldLink own idx "ConeRounds$Law" "to" "I" ∈ wU) (hdg : decode cc pc = .ok (.getfield idx, 3)) (kk : W p l e R s m args below meth c H locs cells slots Q (F0 m (pc + 3) ls (.int (s_bt S) :: rest))) : W p l e R s m args below meth c H locs cells slots Q (F0 m pc ls (.ref (q 3) :: rest)) := r_get E G 3 rfl rfl inU3 1 (by decide) hl rfl rfl hdg kk
theorem pC_3_1 (E : EW p m c cc nL s args own Z) (G : GW Z (CW Z q S X) A H0 H locs) {idx : Nat} (hl : Cond.fieldLink own idx "ConeRounds$Law" "to" "I" ∈ wU) {v : Int32} (hdg : decode cc pc = .ok (.putfield idx, 3)) (kk : ∀ (H1 : Heap) (locs1 : List Loc), GW Z (CW Z q (u_bt S v) X) A H0 H1 locs1 → W p l e R s m args below meth c H1 locs1 cells slots Q (F0 m (pc + 3) ls rest)) : W p l e R s m args below meth c H locs cells slots Q (F0 m pc ls (.int v :: .ref (q 3) :: rest)) := r_put E G 3 rfl rfl inU3 tyX3_ok nmX3 1 (by decide) hl rfl rfl rfl (Nat.le_of_ble_eq_true rfl) rfl hdg kk
theorem gC_3_2 (E : EW p m c cc nL s args own Z) (G : GW Z (CW Z q S X) A H0 H locs) {idx : Nat} (hl : Cond.fieldLink own idx "ConeRounds$Law" "seconds" "I" ∈ wU) (hdg : decode cc pc = .ok (.getfield idx, 3)) (kk : W p l e R s m args below meth c H locs cells slots Q (F0 m (pc + 3) ls (.int (s_cm S) :: rest))) : W p l e R s m args below meth c H locs cells slots Q (F0 m pc ls (.ref (q 3) :: rest)) := r_get E G 3 rfl rfl inU3 2 (by decide) hl rfl rfl hdg kk
theorem pC_3_2 (E : EW p m c cc nL s args own Z) (G : GW Z (CW Z q S X) A H0 H locs) {idx : Nat} (hl : Cond.fieldLink own idx "ConeRounds$Law" "seconds" "I" ∈ wU) {v : Int32} (hdg : decode cc pc = .ok (.putfield idx, 3)) (kk : ∀ (H1 : Heap) (locs1 : List Loc), GW Z (CW Z q (u_cm S v) X) A H0 H1 locs1 → W p l e R s m args below meth c H1 locs1 cells slots Q (F0 m (pc + 3) ls rest)) : W p l e R s m args below meth c H locs cells slots Q (F0 m pc ls (.int v :: .ref (q 3) :: rest)) := r_put E G 3 rfl rfl inU3 tyX3_ok nmX3 2 (by decide) hl rfl rfl rfl (Nat.le_of_ble_eq_true rfl) rfl hdg kk
theorem gC_5_0 (E : EW p m c cc nL s args own Z) (G : GW Z (CW Z q S X) A H0 H locs) {idx : Nat} (hl : Cond.fieldLink own idx "ConeRounds$Trail" "streets" "[I" ∈ wU) (hdg : decode cc pc = .ok (.getfield idx, 3)) (kk : W p l e R s m args below meth c H locs cells slots Q (F0 m (pc + 3) ls (.ref (q 13) :: rest))) : W p l e R s m args below meth c H locs cells slots Q (F0 m pc ls (.ref (q 5) :: rest)) := r_get E G 5 rfl rfl inU6 0 (by decide) hl rfl rfl hdg kk
theorem gC_5_1 (E : EW p m c cc nL s args own Z) (G : GW Z (CW Z q S X) A H0 H locs) {idx : Nat} (hl : Cond.fieldLink own idx "ConeRounds$Trail" "hours" "[I" ∈ wU) (hdg : decode cc pc = .ok (.getfield idx, 3)) (kk : W p l e R s m args below meth c H locs cells slots Q (F0 m (pc + 3) ls (.ref (q 14) :: rest))) : W p l e R s m args below meth c H locs cells slots Q (F0 m pc ls (.ref (q 5) :: rest)) := r_get E G 5 rfl rfl inU6 1 (by decide) hl rfl rfl hdg kk
theorem gC_5_2 (E : EW p m c cc nL s args own Z) (G : GW Z (CW Z q S X) A H0 H locs) {idx : Nat} (hl : Cond.fieldLink own idx "ConeRounds$Trail" "size" "I" ∈ wU) (hdg : decode cc pc = .ok (.getfield idx, 3)) (kk : W p l e R s m args below meth c H locs cells slots Q (F0 m (pc + 3) ls (.int (x_tn X) :: rest))) : W p l e R s m args below meth c H locs cells slots Q (F0 m pc ls (.ref (q 5) :: rest)) := r_get E G 5 rfl rfl inU6 2 (by decide) hl rfl rfl hdg kk
theorem pC_5_2 (E : EW p m c cc nL s args own Z) (G : GW Z (CW Z q S X) A H0 H locs) {idx : Nat} (hl : Cond.fieldLink own idx "ConeRounds$Trail" "size" "I" ∈ wU) {v : Int32} (hdg : decode cc pc = .ok (.putfield idx, 3)) (kk : ∀ (H1 : Heap) (locs1 : List Loc), GW Z (CW Z q S (v_tn X v)) A H0 H1 locs1 → W p l e R s m args below meth c H1 locs1 cells slots Q (F0 m (pc + 3) ls rest)) : W p l e R s m args below meth c H locs cells slots Q (F0 m pc ls (.int v :: .ref (q 5) :: rest)) := r_put E G 5 rfl rfl inU6 tyX6_ok nmX6 2 (by decide) hl rfl rfl rfl (Nat.le_of_ble_eq_true rfl) rfl hdg kk
theorem gC_5_3 (E : EW p m c cc nL s args own Z) (G : GW Z (CW Z q S X) A H0 H locs) {idx : Nat} (hl : Cond.fieldLink own idx "ConeRounds$Trail" "stock" "I" ∈ wU) (hdg : decode cc pc = .ok (.getfield idx, 3)) (kk : W p l e R s m args below meth c H locs cells slots Q (F0 m (pc + 3) ls (.int (x_tk X) :: rest))) : W p l e R s m args below meth c H locs cells slots Q (F0 m pc ls (.ref (q 5) :: rest)) := r_get E G 5 rfl rfl inU6 3 (by decide) hl rfl rfl hdg kk
theorem pC_5_3 (E : EW p m c cc nL s args own Z) (G : GW Z (CW Z q S X) A H0 H locs) {idx : Nat} (hl : Cond.fieldLink own idx "ConeRounds$Trail" "stock" "I" ∈ wU) {v : Int32} (hdg : decode cc pc = .ok (.putfield idx, 3)) (kk : ∀ (H1 : Heap) (locs1 : List Loc), GW Z (CW Z q S (v_tk X v)) A H0 H1 locs1 → W p l e R s m args below meth c H1 locs1 cells slots Q (F0 m (pc + 3) ls rest)) : W p l e R s m args below meth c H locs cells slots Q (F0 m pc ls (.int v :: .ref (q 5) :: rest)) := r_put E G 5 rfl rfl inU6 tyX6_ok nmX6 3 (by decide) hl rfl rfl rfl (Nat.le_of_ble_eq_true rfl) rfl hdg kk
theorem gC_5_4 (E : EW p m c cc nL s args own Z) (G : GW Z (CW Z q S X) A H0 H locs) {idx : Nat} (hl : Cond.fieldLink own idx "ConeRounds$Trail" "sold" "I" ∈ wU) (hdg : decode cc pc = .ok (.getfield idx, 3)) (kk : W p l e R s m args below meth c H locs cells slots Q (F0 m (pc + 3) ls (.int (x_tl X) :: rest))) : W p l e R s m args below meth c H locs cells slots Q (F0 m pc ls (.ref (q 5) :: rest)) := r_get E G 5 rfl rfl inU6 4 (by decide) hl rfl rfl hdg kk
theorem pC_5_4 (E : EW p m c cc nL s args own Z) (G : GW Z (CW Z q S X) A H0 H locs) {idx : Nat} (hl : Cond.fieldLink own idx "ConeRounds$Trail" "sold" "I" ∈ wU) {v : Int32} (hdg : decode cc pc = .ok (.putfield idx, 3)) (kk : ∀ (H1 : Heap) (locs1 : List Loc), GW Z (CW Z q S (v_tl X v)) A H0 H1 locs1 → W p l e R s m args below meth c H1 locs1 cells slots Q (F0 m (pc + 3) ls rest)) : W p l e R s m args below meth c H locs cells slots Q (F0 m pc ls (.int v :: .ref (q 5) :: rest)) := r_put E G 5 rfl rfl inU6 tyX6_ok nmX6 4 (by decide) hl rfl rfl rfl (Nat.le_of_ble_eq_true rfl) rfl hdg kk
theorem gC_6_0 (E : EW p m c cc nL s args own Z) (G : GW Z (CW Z q S X) A H0 H locs) {idx : Nat} (hl : Cond.fieldLink own idx "ConeRounds$Trail" "streets" "[I" ∈ wU) (hdg : decode cc pc = .ok (.getfield idx, 3)) (kk : W p l e R s m args below meth c H locs cells slots Q (F0 m (pc + 3) ls (.ref (q 15) :: rest))) : W p l e R s m args below meth c H locs cells slots Q (F0 m pc ls (.ref (q 6) :: rest)) := r_get E G 6 rfl rfl inU6 0 (by decide) hl rfl rfl hdg kk
theorem gC_6_1 (E : EW p m c cc nL s args own Z) (G : GW Z (CW Z q S X) A H0 H locs) {idx : Nat} (hl : Cond.fieldLink own idx "ConeRounds$Trail" "hours" "[I" ∈ wU) (hdg : decode cc pc = .ok (.getfield idx, 3)) (kk : W p l e R s m args below meth c H locs cells slots Q (F0 m (pc + 3) ls (.ref (q 16) :: rest))) : W p l e R s m args below meth c H locs cells slots Q (F0 m pc ls (.ref (q 6) :: rest)) := r_get E G 6 rfl rfl inU6 1 (by decide) hl rfl rfl hdg kk
theorem gC_6_2 (E : EW p m c cc nL s args own Z) (G : GW Z (CW Z q S X) A H0 H locs) {idx : Nat} (hl : Cond.fieldLink own idx "ConeRounds$Trail" "size" "I" ∈ wU) (hdg : decode cc pc = .ok (.getfield idx, 3)) (kk : W p l e R s m args below meth c H locs cells slots Q (F0 m (pc + 3) ls (.int (x_bn X) :: rest))) : W p l e R s m args below meth c H locs cells slots Q (F0 m pc ls (.ref (q 6) :: rest)) := r_get E G 6 rfl rfl inU6 2 (by decide) hl rfl rfl hdg kk
theorem pC_6_2 (E : EW p m c cc nL s args own Z) (G : GW Z (CW Z q S X) A H0 H locs) {idx : Nat} (hl : Cond.fieldLink own idx "ConeRounds$Trail" "size" "I" ∈ wU) {v : Int32} (hdg : decode cc pc = .ok (.putfield idx, 3)) (kk : ∀ (H1 : Heap) (locs1 : List Loc), GW Z (CW Z q S (v_bn X v)) A H0 H1 locs1 → W p l e R s m args below meth c H1 locs1 cells slots Q (F0 m (pc + 3) ls rest)) : W p l e R s m args below meth c H locs cells slots Q (F0 m pc ls (.int v :: .ref (q 6) :: rest)) := r_put E G 6 rfl rfl inU6 tyX6_ok nmX6 2 (by decide) hl rfl rfl rfl (Nat.le_of_ble_eq_true rfl) rfl hdg kk
theorem gC_6_3 (E : EW p m c cc nL s args own Z) (G : GW Z (CW Z q S X) A H0 H locs) {idx : Nat} (hl : Cond.fieldLink own idx "ConeRounds$Trail" "stock" "I" ∈ wU) (hdg : decode cc pc = .ok (.getfield idx, 3)) (kk : W p l e R s m args below meth c H locs cells slots Q (F0 m (pc + 3) ls (.int (x_bk X) :: rest))) : W p l e R s m args below meth c H locs cells slots Q (F0 m pc ls (.ref (q 6) :: rest)) := r_get E G 6 rfl rfl inU6 3 (by decide) hl rfl rfl hdg kk
theorem pC_6_3 (E : EW p m c cc nL s args own Z) (G : GW Z (CW Z q S X) A H0 H locs) {idx : Nat} (hl : Cond.fieldLink own idx "ConeRounds$Trail" "stock" "I" ∈ wU) {v : Int32} (hdg : decode cc pc = .ok (.putfield idx, 3)) (kk : ∀ (H1 : Heap) (locs1 : List Loc), GW Z (CW Z q S (v_bk X v)) A H0 H1 locs1 → W p l e R s m args below meth c H1 locs1 cells slots Q (F0 m (pc + 3) ls rest)) : W p l e R s m args below meth c H locs cells slots Q (F0 m pc ls (.int v :: .ref (q 6) :: rest)) := r_put E G 6 rfl rfl inU6 tyX6_ok nmX6 3 (by decide) hl rfl rfl rfl (Nat.le_of_ble_eq_true rfl) rfl hdg kk
theorem gC_6_4 (E : EW p m c cc nL s args own Z) (G : GW Z (CW Z q S X) A H0 H locs) {idx : Nat} (hl : Cond.fieldLink own idx "ConeRounds$Trail" "sold" "I" ∈ wU) (hdg : decode cc pc = .ok (.getfield idx, 3)) (kk : W p l e R s m args below meth c H locs cells slots Q (F0 m (pc + 3) ls (.int (x_bl X) :: rest))) : W p l e R s m args below meth c H locs cells slots Q (F0 m pc ls (.ref (q 6) :: rest)) := r_get E G 6 rfl rfl inU6 4 (by decide) hl rfl rfl hdg kk
theorem pC_6_4 (E : EW p m c cc nL s args own Z) (G : GW Z (CW Z q S X) A H0 H locs) {idx : Nat} (hl : Cond.fieldLink own idx "ConeRounds$Trail" "sold" "I" ∈ wU) {v : Int32} (hdg : decode cc pc = .ok (.putfield idx, 3)) (kk : ∀ (H1 : Heap) (locs1 : List Loc), GW Z (CW Z q S (v_bl X v)) A H0 H1 locs1 → W p l e R s m args below meth c H1 locs1 cells slots Q (F0 m (pc + 3) ls rest)) : W p l e R s m args below meth c H locs cells slots Q (F0 m pc ls (.int v :: .ref (q 6) :: rest)) := r_put E G 6 rfl rfl inU6 tyX6_ok nmX6 4 (by decide) hl rfl rfl rfl (Nat.le_of_ble_eq_true rfl) rfl hdg kk
theorem gC_7_0 (E : EW p m c cc nL s args own Z) (G : GW Z (CW Z q S X) A H0 H locs) {idx : Nat} (hl : Cond.fieldLink own idx "ConeRounds$Stands" "vans" "[I" ∈ wU) (hdg : decode cc pc = .ok (.getfield idx, 3)) (kk : W p l e R s m args below meth c H locs cells slots Q (F0 m (pc + 3) ls (.ref (q 17) :: rest))) : W p l e R s m args below meth c H locs cells slots Q (F0 m pc ls (.ref (q 7) :: rest)) := r_get E G 7 rfl rfl inU4 0 (by decide) hl rfl rfl hdg kk
theorem gC_7_1 (E : EW p m c cc nL s args own Z) (G : GW Z (CW Z q S X) A H0 H locs) {idx : Nat} (hl : Cond.fieldLink own idx "ConeRounds$Stands" "streets" "[I" ∈ wU) (hdg : decode cc pc = .ok (.getfield idx, 3)) (kk : W p l e R s m args below meth c H locs cells slots Q (F0 m (pc + 3) ls (.ref (q 18) :: rest))) : W p l e R s m args below meth c H locs cells slots Q (F0 m pc ls (.ref (q 7) :: rest)) := r_get E G 7 rfl rfl inU4 1 (by decide) hl rfl rfl hdg kk
theorem gC_7_2 (E : EW p m c cc nL s args own Z) (G : GW Z (CW Z q S X) A H0 H locs) {idx : Nat} (hl : Cond.fieldLink own idx "ConeRounds$Stands" "hours" "[I" ∈ wU) (hdg : decode cc pc = .ok (.getfield idx, 3)) (kk : W p l e R s m args below meth c H locs cells slots Q (F0 m (pc + 3) ls (.ref (q 19) :: rest))) : W p l e R s m args below meth c H locs cells slots Q (F0 m pc ls (.ref (q 7) :: rest)) := r_get E G 7 rfl rfl inU4 2 (by decide) hl rfl rfl hdg kk
theorem gC_7_3 (E : EW p m c cc nL s args own Z) (G : GW Z (CW Z q S X) A H0 H locs) {idx : Nat} (hl : Cond.fieldLink own idx "ConeRounds$Stands" "chimes" "[I" ∈ wU) (hdg : decode cc pc = .ok (.getfield idx, 3)) (kk : W p l e R s m args below meth c H locs cells slots Q (F0 m (pc + 3) ls (.ref (q 20) :: rest))) : W p l e R s m args below meth c H locs cells slots Q (F0 m pc ls (.ref (q 7) :: rest)) := r_get E G 7 rfl rfl inU4 3 (by decide) hl rfl rfl hdg kk
theorem gC_7_4 (E : EW p m c cc nL s args own Z) (G : GW Z (CW Z q S X) A H0 H locs) {idx : Nat} (hl : Cond.fieldLink own idx "ConeRounds$Stands" "size" "I" ∈ wU) (hdg : decode cc pc = .ok (.getfield idx, 3)) (kk : W p l e R s m args below meth c H locs cells slots Q (F0 m (pc + 3) ls (.int (s_sd S) :: rest))) : W p l e R s m args below meth c H locs cells slots Q (F0 m pc ls (.ref (q 7) :: rest)) := r_get E G 7 rfl rfl inU4 4 (by decide) hl rfl rfl hdg kk
theorem pC_7_4 (E : EW p m c cc nL s args own Z) (G : GW Z (CW Z q S X) A H0 H locs) {idx : Nat} (hl : Cond.fieldLink own idx "ConeRounds$Stands" "size" "I" ∈ wU) {v : Int32} (hdg : decode cc pc = .ok (.putfield idx, 3)) (kk : ∀ (H1 : Heap) (locs1 : List Loc), GW Z (CW Z q (u_sd S v) X) A H0 H1 locs1 → W p l e R s m args below meth c H1 locs1 cells slots Q (F0 m (pc + 3) ls rest)) : W p l e R s m args below meth c H locs cells slots Q (F0 m pc ls (.int v :: .ref (q 7) :: rest)) := r_put E G 7 rfl rfl inU4 tyX4_ok nmX4 4 (by decide) hl rfl rfl rfl (Nat.le_of_ble_eq_true rfl) rfl hdg kk
theorem gC_8_0 (E : EW p m c cc nL s args own Z) (G : GW Z (CW Z q S X) A H0 H locs) {idx : Nat} (hl : Cond.fieldLink own idx "ConeRounds$Bills" "coins" "[I" ∈ wU) (hdg : decode cc pc = .ok (.getfield idx, 3)) (kk : W p l e R s m args below meth c H locs cells slots Q (F0 m (pc + 3) ls (.ref (q 21) :: rest))) : W p l e R s m args below meth c H locs cells slots Q (F0 m pc ls (.ref (q 8) :: rest)) := r_get E G 8 rfl rfl inU1 0 (by decide) hl rfl rfl hdg kk
theorem gC_8_1 (E : EW p m c cc nL s args own Z) (G : GW Z (CW Z q S X) A H0 H locs) {idx : Nat} (hl : Cond.fieldLink own idx "ConeRounds$Bills" "days" "[I" ∈ wU) (hdg : decode cc pc = .ok (.getfield idx, 3)) (kk : W p l e R s m args below meth c H locs cells slots Q (F0 m (pc + 3) ls (.ref (q 22) :: rest))) : W p l e R s m args below meth c H locs cells slots Q (F0 m pc ls (.ref (q 8) :: rest)) := r_get E G 8 rfl rfl inU1 1 (by decide) hl rfl rfl hdg kk
theorem gC_8_2 (E : EW p m c cc nL s args own Z) (G : GW Z (CW Z q S X) A H0 H locs) {idx : Nat} (hl : Cond.fieldLink own idx "ConeRounds$Bills" "dues" "[I" ∈ wU) (hdg : decode cc pc = .ok (.getfield idx, 3)) (kk : W p l e R s m args below meth c H locs cells slots Q (F0 m (pc + 3) ls (.ref (q 23) :: rest))) : W p l e R s m args below meth c H locs cells slots Q (F0 m pc ls (.ref (q 8) :: rest)) := r_get E G 8 rfl rfl inU1 2 (by decide) hl rfl rfl hdg kk
theorem gC_8_3 (E : EW p m c cc nL s args own Z) (G : GW Z (CW Z q S X) A H0 H locs) {idx : Nat} (hl : Cond.fieldLink own idx "ConeRounds$Bills" "size" "I" ∈ wU) (hdg : decode cc pc = .ok (.getfield idx, 3)) (kk : W p l e R s m args below meth c H locs cells slots Q (F0 m (pc + 3) ls (.int (s_bi S) :: rest))) : W p l e R s m args below meth c H locs cells slots Q (F0 m pc ls (.ref (q 8) :: rest)) := r_get E G 8 rfl rfl inU1 3 (by decide) hl rfl rfl hdg kk
theorem pC_8_3 (E : EW p m c cc nL s args own Z) (G : GW Z (CW Z q S X) A H0 H locs) {idx : Nat} (hl : Cond.fieldLink own idx "ConeRounds$Bills" "size" "I" ∈ wU) {v : Int32} (hdg : decode cc pc = .ok (.putfield idx, 3)) (kk : ∀ (H1 : Heap) (locs1 : List Loc), GW Z (CW Z q (u_bi S v) X) A H0 H1 locs1 → W p l e R s m args below meth c H1 locs1 cells slots Q (F0 m (pc + 3) ls rest)) : W p l e R s m args below meth c H locs cells slots Q (F0 m pc ls (.int v :: .ref (q 8) :: rest)) := r_put E G 8 rfl rfl inU1 tyX1_ok nmX1 3 (by decide) hl rfl rfl rfl (Nat.le_of_ble_eq_true rfl) rfl hdg kk
theorem gC_8_4 (E : EW p m c cc nL s args own Z) (G : GW Z (CW Z q S X) A H0 H locs) {idx : Nat} (hl : Cond.fieldLink own idx "ConeRounds$Bills" "credit" "I" ∈ wU) (hdg : decode cc pc = .ok (.getfield idx, 3)) (kk : W p l e R s m args below meth c H locs cells slots Q (F0 m (pc + 3) ls (.int (s_cr S) :: rest))) : W p l e R s m args below meth c H locs cells slots Q (F0 m pc ls (.ref (q 8) :: rest)) := r_get E G 8 rfl rfl inU1 4 (by decide) hl rfl rfl hdg kk
theorem pC_8_4 (E : EW p m c cc nL s args own Z) (G : GW Z (CW Z q S X) A H0 H locs) {idx : Nat} (hl : Cond.fieldLink own idx "ConeRounds$Bills" "credit" "I" ∈ wU) {v : Int32} (hdg : decode cc pc = .ok (.putfield idx, 3)) (kk : ∀ (H1 : Heap) (locs1 : List Loc), GW Z (CW Z q (u_cr S v) X) A H0 H1 locs1 → W p l e R s m args below meth c H1 locs1 cells slots Q (F0 m (pc + 3) ls rest)) : W p l e R s m args below meth c H locs cells slots Q (F0 m pc ls (.int v :: .ref (q 8) :: rest)) := r_put E G 8 rfl rfl inU1 tyX1_ok nmX1 4 (by decide) hl rfl rfl rfl (Nat.le_of_ble_eq_true rfl) rfl hdg kk
theorem aC_1 (E : EW p m c cc nL s args own Z) (G : GW Z (CW Z q S X) A H0 H locs) {i : Int32} (hin : vp_in i 6) (hdg : decode cc pc = .ok (.iaload, 1)) (kk : W p l e R s m args below meth c H locs cells slots Q (F0 m (pc + 1) ls (.int (ar (s_co S) i) :: rest))) : W p l e R s m args below meth c H locs cells slots Q (F0 m pc ls (.int i :: .ref (q 1) :: rest)) := r_ald E G 1 rfl hin hdg kk
theorem tC_1 (E : EW p m c cc nL s args own Z) (G : GW Z (CW Z q S X) A H0 H locs) {i x : Int32} (hin : vp_in i 6) (hdg : decode cc pc = .ok (.iastore, 1)) (kk : ∀ (H1 : Heap) (locs1 : List Loc), GW Z (CW Z q (u_co S (au (s_co S) i x)) X) A H0 H1 locs1 → W p l e R s m args below meth c H1 locs1 cells slots Q (F0 m (pc + 1) ls rest)) : W p l e R s m args below meth c H locs cells slots Q (F0 m pc ls (.int x :: .int i :: .ref (q 1) :: rest)) := r_ast E G 1 rfl hin rfl hdg kk
theorem aC_9 (E : EW p m c cc nL s args own Z) (G : GW Z (CW Z q S X) A H0 H locs) {i : Int32} (hin : vp_in i 12) (hdg : decode cc pc = .ok (.iaload, 1)) (kk : W p l e R s m args below meth c H locs cells slots Q (F0 m (pc + 1) ls (.int (ar (s_wt S) i) :: rest))) : W p l e R s m args below meth c H locs cells slots Q (F0 m pc ls (.int i :: .ref (q 9) :: rest)) := r_ald E G 9 rfl hin hdg kk
theorem tC_9 (E : EW p m c cc nL s args own Z) (G : GW Z (CW Z q S X) A H0 H locs) {i x : Int32} (hin : vp_in i 12) (hdg : decode cc pc = .ok (.iastore, 1)) (kk : ∀ (H1 : Heap) (locs1 : List Loc), GW Z (CW Z q (u_wt S (au (s_wt S) i x)) X) A H0 H1 locs1 → W p l e R s m args below meth c H1 locs1 cells slots Q (F0 m (pc + 1) ls rest)) : W p l e R s m args below meth c H locs cells slots Q (F0 m pc ls (.int x :: .int i :: .ref (q 9) :: rest)) := r_ast E G 9 rfl hin rfl hdg kk
theorem aC_10 (E : EW p m c cc nL s args own Z) (G : GW Z (CW Z q S X) A H0 H locs) {i : Int32} (hin : vp_in i 6) (hdg : decode cc pc = .ok (.baload, 1)) (kk : W p l e R s m args below meth c H locs cells slots Q (F0 m (pc + 1) ls (.int (ar (s_sc S) i) :: rest))) : W p l e R s m args below meth c H locs cells slots Q (F0 m pc ls (.int i :: .ref (q 10) :: rest)) := r_zald E G 10 rfl hin hdg kk
theorem aC_11 (E : EW p m c cc nL s args own Z) (G : GW Z (CW Z q S X) A H0 H locs) {i : Int32} (hin : vp_in i 36) (hdg : decode cc pc = .ok (.iaload, 1)) (kk : W p l e R s m args below meth c H locs cells slots Q (F0 m (pc + 1) ls (.int (ar (s_wy S) i) :: rest))) : W p l e R s m args below meth c H locs cells slots Q (F0 m pc ls (.int i :: .ref (q 11) :: rest)) := r_ald E G 11 rfl hin hdg kk
theorem tC_11 (E : EW p m c cc nL s args own Z) (G : GW Z (CW Z q S X) A H0 H locs) {i x : Int32} (hin : vp_in i 36) (hdg : decode cc pc = .ok (.iastore, 1)) (kk : ∀ (H1 : Heap) (locs1 : List Loc), GW Z (CW Z q (u_wy S (au (s_wy S) i x)) X) A H0 H1 locs1 → W p l e R s m args below meth c H1 locs1 cells slots Q (F0 m (pc + 1) ls rest)) : W p l e R s m args below meth c H locs cells slots Q (F0 m pc ls (.int x :: .int i :: .ref (q 11) :: rest)) := r_ast E G 11 rfl hin rfl hdg kk
theorem aC_12 (E : EW p m c cc nL s args own Z) (G : GW Z (CW Z q S X) A H0 H locs) {i : Int32} (hin : vp_in i 72) (hdg : decode cc pc = .ok (.iaload, 1)) (kk : W p l e R s m args below meth c H locs cells slots Q (F0 m (pc + 1) ls (.int (ar (s_wi S) i) :: rest))) : W p l e R s m args below meth c H locs cells slots Q (F0 m pc ls (.int i :: .ref (q 12) :: rest)) := r_ald E G 12 rfl hin hdg kk
theorem tC_12 (E : EW p m c cc nL s args own Z) (G : GW Z (CW Z q S X) A H0 H locs) {i x : Int32} (hin : vp_in i 72) (hdg : decode cc pc = .ok (.iastore, 1)) (kk : ∀ (H1 : Heap) (locs1 : List Loc), GW Z (CW Z q (u_wi S (au (s_wi S) i x)) X) A H0 H1 locs1 → W p l e R s m args below meth c H1 locs1 cells slots Q (F0 m (pc + 1) ls rest)) : W p l e R s m args below meth c H locs cells slots Q (F0 m pc ls (.int x :: .int i :: .ref (q 12) :: rest)) := r_ast E G 12 rfl hin rfl hdg kk
theorem aC_13 (E : EW p m c cc nL s args own Z) (G : GW Z (CW Z q S X) A H0 H locs) {i : Int32} (hin : vp_in i 12) (hdg : decode cc pc = .ok (.iaload, 1)) (kk : W p l e R s m args below meth c H locs cells slots Q (F0 m (pc + 1) ls (.int (ar (x_ts X) i) :: rest))) : W p l e R s m args below meth c H locs cells slots Q (F0 m pc ls (.int i :: .ref (q 13) :: rest)) := r_ald E G 13 rfl hin hdg kk
theorem tC_13 (E : EW p m c cc nL s args own Z) (G : GW Z (CW Z q S X) A H0 H locs) {i x : Int32} (hin : vp_in i 12) (hdg : decode cc pc = .ok (.iastore, 1)) (kk : ∀ (H1 : Heap) (locs1 : List Loc), GW Z (CW Z q S (v_ts X (au (x_ts X) i x))) A H0 H1 locs1 → W p l e R s m args below meth c H1 locs1 cells slots Q (F0 m (pc + 1) ls rest)) : W p l e R s m args below meth c H locs cells slots Q (F0 m pc ls (.int x :: .int i :: .ref (q 13) :: rest)) := r_ast E G 13 rfl hin rfl hdg kk
theorem aC_14 (E : EW p m c cc nL s args own Z) (G : GW Z (CW Z q S X) A H0 H locs) {i : Int32} (hin : vp_in i 12) (hdg : decode cc pc = .ok (.iaload, 1)) (kk : W p l e R s m args below meth c H locs cells slots Q (F0 m (pc + 1) ls (.int (ar (x_th X) i) :: rest))) : W p l e R s m args below meth c H locs cells slots Q (F0 m pc ls (.int i :: .ref (q 14) :: rest)) := r_ald E G 14 rfl hin hdg kk
theorem tC_14 (E : EW p m c cc nL s args own Z) (G : GW Z (CW Z q S X) A H0 H locs) {i x : Int32} (hin : vp_in i 12) (hdg : decode cc pc = .ok (.iastore, 1)) (kk : ∀ (H1 : Heap) (locs1 : List Loc), GW Z (CW Z q S (v_th X (au (x_th X) i x))) A H0 H1 locs1 → W p l e R s m args below meth c H1 locs1 cells slots Q (F0 m (pc + 1) ls rest)) : W p l e R s m args below meth c H locs cells slots Q (F0 m pc ls (.int x :: .int i :: .ref (q 14) :: rest)) := r_ast E G 14 rfl hin rfl hdg kk
theorem aC_15 (E : EW p m c cc nL s args own Z) (G : GW Z (CW Z q S X) A H0 H locs) {i : Int32} (hin : vp_in i 12) (hdg : decode cc pc = .ok (.iaload, 1)) (kk : W p l e R s m args below meth c H locs cells slots Q (F0 m (pc + 1) ls (.int (ar (x_bs X) i) :: rest))) : W p l e R s m args below meth c H locs cells slots Q (F0 m pc ls (.int i :: .ref (q 15) :: rest)) := r_ald E G 15 rfl hin hdg kk
theorem tC_15 (E : EW p m c cc nL s args own Z) (G : GW Z (CW Z q S X) A H0 H locs) {i x : Int32} (hin : vp_in i 12) (hdg : decode cc pc = .ok (.iastore, 1)) (kk : ∀ (H1 : Heap) (locs1 : List Loc), GW Z (CW Z q S (v_bs X (au (x_bs X) i x))) A H0 H1 locs1 → W p l e R s m args below meth c H1 locs1 cells slots Q (F0 m (pc + 1) ls rest)) : W p l e R s m args below meth c H locs cells slots Q (F0 m pc ls (.int x :: .int i :: .ref (q 15) :: rest)) := r_ast E G 15 rfl hin rfl hdg kk
theorem aC_16 (E : EW p m c cc nL s args own Z) (G : GW Z (CW Z q S X) A H0 H locs) {i : Int32} (hin : vp_in i 12) (hdg : decode cc pc = .ok (.iaload, 1)) (kk : W p l e R s m args below meth c H locs cells slots Q (F0 m (pc + 1) ls (.int (ar (x_bh X) i) :: rest))) : W p l e R s m args below meth c H locs cells slots Q (F0 m pc ls (.int i :: .ref (q 16) :: rest)) := r_ald E G 16 rfl hin hdg kk
theorem tC_16 (E : EW p m c cc nL s args own Z) (G : GW Z (CW Z q S X) A H0 H locs) {i x : Int32} (hin : vp_in i 12) (hdg : decode cc pc = .ok (.iastore, 1)) (kk : ∀ (H1 : Heap) (locs1 : List Loc), GW Z (CW Z q S (v_bh X (au (x_bh X) i x))) A H0 H1 locs1 → W p l e R s m args below meth c H1 locs1 cells slots Q (F0 m (pc + 1) ls rest)) : W p l e R s m args below meth c H locs cells slots Q (F0 m pc ls (.int x :: .int i :: .ref (q 16) :: rest)) := r_ast E G 16 rfl hin rfl hdg kk
theorem aC_17 (E : EW p m c cc nL s args own Z) (G : GW Z (CW Z q S X) A H0 H locs) {i : Int32} (hin : vp_in i 24) (hdg : decode cc pc = .ok (.iaload, 1)) (kk : W p l e R s m args below meth c H locs cells slots Q (F0 m (pc + 1) ls (.int (ar (s_sv S) i) :: rest))) : W p l e R s m args below meth c H locs cells slots Q (F0 m pc ls (.int i :: .ref (q 17) :: rest)) := r_ald E G 17 rfl hin hdg kk
theorem tC_17 (E : EW p m c cc nL s args own Z) (G : GW Z (CW Z q S X) A H0 H locs) {i x : Int32} (hin : vp_in i 24) (hdg : decode cc pc = .ok (.iastore, 1)) (kk : ∀ (H1 : Heap) (locs1 : List Loc), GW Z (CW Z q (u_sv S (au (s_sv S) i x)) X) A H0 H1 locs1 → W p l e R s m args below meth c H1 locs1 cells slots Q (F0 m (pc + 1) ls rest)) : W p l e R s m args below meth c H locs cells slots Q (F0 m pc ls (.int x :: .int i :: .ref (q 17) :: rest)) := r_ast E G 17 rfl hin rfl hdg kk
theorem aC_18 (E : EW p m c cc nL s args own Z) (G : GW Z (CW Z q S X) A H0 H locs) {i : Int32} (hin : vp_in i 24) (hdg : decode cc pc = .ok (.iaload, 1)) (kk : W p l e R s m args below meth c H locs cells slots Q (F0 m (pc + 1) ls (.int (ar (s_ss S) i) :: rest))) : W p l e R s m args below meth c H locs cells slots Q (F0 m pc ls (.int i :: .ref (q 18) :: rest)) := r_ald E G 18 rfl hin hdg kk
theorem tC_18 (E : EW p m c cc nL s args own Z) (G : GW Z (CW Z q S X) A H0 H locs) {i x : Int32} (hin : vp_in i 24) (hdg : decode cc pc = .ok (.iastore, 1)) (kk : ∀ (H1 : Heap) (locs1 : List Loc), GW Z (CW Z q (u_ss S (au (s_ss S) i x)) X) A H0 H1 locs1 → W p l e R s m args below meth c H1 locs1 cells slots Q (F0 m (pc + 1) ls rest)) : W p l e R s m args below meth c H locs cells slots Q (F0 m pc ls (.int x :: .int i :: .ref (q 18) :: rest)) := r_ast E G 18 rfl hin rfl hdg kk
theorem aC_19 (E : EW p m c cc nL s args own Z) (G : GW Z (CW Z q S X) A H0 H locs) {i : Int32} (hin : vp_in i 24) (hdg : decode cc pc = .ok (.iaload, 1)) (kk : W p l e R s m args below meth c H locs cells slots Q (F0 m (pc + 1) ls (.int (ar (s_sh S) i) :: rest))) : W p l e R s m args below meth c H locs cells slots Q (F0 m pc ls (.int i :: .ref (q 19) :: rest)) := r_ald E G 19 rfl hin hdg kk
theorem tC_19 (E : EW p m c cc nL s args own Z) (G : GW Z (CW Z q S X) A H0 H locs) {i x : Int32} (hin : vp_in i 24) (hdg : decode cc pc = .ok (.iastore, 1)) (kk : ∀ (H1 : Heap) (locs1 : List Loc), GW Z (CW Z q (u_sh S (au (s_sh S) i x)) X) A H0 H1 locs1 → W p l e R s m args below meth c H1 locs1 cells slots Q (F0 m (pc + 1) ls rest)) : W p l e R s m args below meth c H locs cells slots Q (F0 m pc ls (.int x :: .int i :: .ref (q 19) :: rest)) := r_ast E G 19 rfl hin rfl hdg kk
theorem aC_20 (E : EW p m c cc nL s args own Z) (G : GW Z (CW Z q S X) A H0 H locs) {i : Int32} (hin : vp_in i 24) (hdg : decode cc pc = .ok (.iaload, 1)) (kk : W p l e R s m args below meth c H locs cells slots Q (F0 m (pc + 1) ls (.int (ar (s_sm S) i) :: rest))) : W p l e R s m args below meth c H locs cells slots Q (F0 m pc ls (.int i :: .ref (q 20) :: rest)) := r_ald E G 20 rfl hin hdg kk
theorem tC_20 (E : EW p m c cc nL s args own Z) (G : GW Z (CW Z q S X) A H0 H locs) {i x : Int32} (hin : vp_in i 24) (hdg : decode cc pc = .ok (.iastore, 1)) (kk : ∀ (H1 : Heap) (locs1 : List Loc), GW Z (CW Z q (u_sm S (au (s_sm S) i x)) X) A H0 H1 locs1 → W p l e R s m args below meth c H1 locs1 cells slots Q (F0 m (pc + 1) ls rest)) : W p l e R s m args below meth c H locs cells slots Q (F0 m pc ls (.int x :: .int i :: .ref (q 20) :: rest)) := r_ast E G 20 rfl hin rfl hdg kk
theorem aC_21 (E : EW p m c cc nL s args own Z) (G : GW Z (CW Z q S X) A H0 H locs) {i : Int32} (hin : vp_in i 12) (hdg : decode cc pc = .ok (.iaload, 1)) (kk : W p l e R s m args below meth c H locs cells slots Q (F0 m (pc + 1) ls (.int (ar (s_le S) i) :: rest))) : W p l e R s m args below meth c H locs cells slots Q (F0 m pc ls (.int i :: .ref (q 21) :: rest)) := r_ald E G 21 rfl hin hdg kk
theorem tC_21 (E : EW p m c cc nL s args own Z) (G : GW Z (CW Z q S X) A H0 H locs) {i x : Int32} (hin : vp_in i 12) (hdg : decode cc pc = .ok (.iastore, 1)) (kk : ∀ (H1 : Heap) (locs1 : List Loc), GW Z (CW Z q (u_le S (au (s_le S) i x)) X) A H0 H1 locs1 → W p l e R s m args below meth c H1 locs1 cells slots Q (F0 m (pc + 1) ls rest)) : W p l e R s m args below meth c H locs cells slots Q (F0 m pc ls (.int x :: .int i :: .ref (q 21) :: rest)) := r_ast E G 21 rfl hin rfl hdg kk
theorem aC_22 (E : EW p m c cc nL s args own Z) (G : GW Z (CW Z q S X) A H0 H locs) {i : Int32} (hin : vp_in i 12) (hdg : decode cc pc = .ok (.iaload, 1)) (kk : W p l e R s m args below meth c H locs cells slots Q (F0 m (pc + 1) ls (.int (ar (s_bd S) i) :: rest))) : W p l e R s m args below meth c H locs cells slots Q (F0 m pc ls (.int i :: .ref (q 22) :: rest)) := r_ald E G 22 rfl hin hdg kk
theorem tC_22 (E : EW p m c cc nL s args own Z) (G : GW Z (CW Z q S X) A H0 H locs) {i x : Int32} (hin : vp_in i 12) (hdg : decode cc pc = .ok (.iastore, 1)) (kk : ∀ (H1 : Heap) (locs1 : List Loc), GW Z (CW Z q (u_bd S (au (s_bd S) i x)) X) A H0 H1 locs1 → W p l e R s m args below meth c H1 locs1 cells slots Q (F0 m (pc + 1) ls rest)) : W p l e R s m args below meth c H locs cells slots Q (F0 m pc ls (.int x :: .int i :: .ref (q 22) :: rest)) := r_ast E G 22 rfl hin rfl hdg kk
theorem aC_23 (E : EW p m c cc nL s args own Z) (G : GW Z (CW Z q S X) A H0 H locs) {i : Int32} (hin : vp_in i 12) (hdg : decode cc pc = .ok (.iaload, 1)) (kk : W p l e R s m args below meth c H locs cells slots Q (F0 m (pc + 1) ls (.int (ar (s_du S) i) :: rest))) : W p l e R s m args below meth c H locs cells slots Q (F0 m pc ls (.int i :: .ref (q 23) :: rest)) := r_ald E G 23 rfl hin hdg kk
theorem tC_23 (E : EW p m c cc nL s args own Z) (G : GW Z (CW Z q S X) A H0 H locs) {i x : Int32} (hin : vp_in i 12) (hdg : decode cc pc = .ok (.iastore, 1)) (kk : ∀ (H1 : Heap) (locs1 : List Loc), GW Z (CW Z q (u_du S (au (s_du S) i x)) X) A H0 H1 locs1 → W p l e R s m args below meth c H1 locs1 cells slots Q (F0 m (pc + 1) ls rest)) : W p l e R s m args below meth c H locs cells slots Q (F0 m pc ls (.int x :: .int i :: .ref (q 23) :: rest)) := r_ast E G 23 rfl hin rfl hdg kk
end RC
section RM
variable {p : Program} {l : Launch} {e : Env} {R : Room} {s : State} {m : MethodId} {args : Array Value} {below : List Frame} {meth : Method} {c : Code} {H H0 : Heap} {locs : List Loc} {cells slots : Nat} {Q : State → Prop} {cc : ByteArray} {nL pc : Nat} {own : String} {Z : ZT} {A : Nat → Prop} {ls : Array Slot} {rest : List Value} {q : Nat → Nat} {S : St} {Y : YM}
theorem gM_0_0 (E : EW p m c cc nL s args own Z) (G : GW Z (MW Z q S Y) A H0 H locs) {idx : Nat} (hl : Cond.fieldLink own idx "ConeRoundsModel" "streets" "I" ∈ wU) (hdg : decode cc pc = .ok (.getfield idx, 3)) (kk : W p l e R s m args below meth c H locs cells slots Q (F0 m (pc + 3) ls (.int (s_st S) :: rest))) : W p l e R s m args below meth c H locs cells slots Q (F0 m pc ls (.ref (q 0) :: rest)) := r_get E G 0 rfl rfl inU9 0 (by decide) hl rfl rfl hdg kk
theorem pM_0_0 (E : EW p m c cc nL s args own Z) (G : GW Z (MW Z q S Y) A H0 H locs) {idx : Nat} (hl : Cond.fieldLink own idx "ConeRoundsModel" "streets" "I" ∈ wU) {v : Int32} (hdg : decode cc pc = .ok (.putfield idx, 3)) (kk : ∀ (H1 : Heap) (locs1 : List Loc), GW Z (MW Z q (u_st S v) Y) A H0 H1 locs1 → W p l e R s m args below meth c H1 locs1 cells slots Q (F0 m (pc + 3) ls rest)) : W p l e R s m args below meth c H locs cells slots Q (F0 m pc ls (.int v :: .ref (q 0) :: rest)) := r_put E G 0 rfl rfl inU9 tyX9_ok nmX9 0 (by decide) hl rfl rfl rfl (Nat.le_of_ble_eq_true rfl) rfl hdg kk
theorem gM_0_1 (E : EW p m c cc nL s args own Z) (G : GW Z (MW Z q S Y) A H0 H locs) {idx : Nat} (hl : Cond.fieldLink own idx "ConeRoundsModel" "vans" "I" ∈ wU) (hdg : decode cc pc = .ok (.getfield idx, 3)) (kk : W p l e R s m args below meth c H locs cells slots Q (F0 m (pc + 3) ls (.int (s_va S) :: rest))) : W p l e R s m args below meth c H locs cells slots Q (F0 m pc ls (.ref (q 0) :: rest)) := r_get E G 0 rfl rfl inU9 1 (by decide) hl rfl rfl hdg kk
theorem pM_0_1 (E : EW p m c cc nL s args own Z) (G : GW Z (MW Z q S Y) A H0 H locs) {idx : Nat} (hl : Cond.fieldLink own idx "ConeRoundsModel" "vans" "I" ∈ wU) {v : Int32} (hdg : decode cc pc = .ok (.putfield idx, 3)) (kk : ∀ (H1 : Heap) (locs1 : List Loc), GW Z (MW Z q (u_va S v) Y) A H0 H1 locs1 → W p l e R s m args below meth c H1 locs1 cells slots Q (F0 m (pc + 3) ls rest)) : W p l e R s m args below meth c H locs cells slots Q (F0 m pc ls (.int v :: .ref (q 0) :: rest)) := r_put E G 0 rfl rfl inU9 tyX9_ok nmX9 1 (by decide) hl rfl rfl rfl (Nat.le_of_ble_eq_true rfl) rfl hdg kk
theorem gM_0_2 (E : EW p m c cc nL s args own Z) (G : GW Z (MW Z q S Y) A H0 H locs) {idx : Nat} (hl : Cond.fieldLink own idx "ConeRoundsModel" "stands" "I" ∈ wU) (hdg : decode cc pc = .ok (.getfield idx, 3)) (kk : W p l e R s m args below meth c H locs cells slots Q (F0 m (pc + 3) ls (.int (s_sd S) :: rest))) : W p l e R s m args below meth c H locs cells slots Q (F0 m pc ls (.ref (q 0) :: rest)) := r_get E G 0 rfl rfl inU9 2 (by decide) hl rfl rfl hdg kk
theorem pM_0_2 (E : EW p m c cc nL s args own Z) (G : GW Z (MW Z q S Y) A H0 H locs) {idx : Nat} (hl : Cond.fieldLink own idx "ConeRoundsModel" "stands" "I" ∈ wU) {v : Int32} (hdg : decode cc pc = .ok (.putfield idx, 3)) (kk : ∀ (H1 : Heap) (locs1 : List Loc), GW Z (MW Z q (u_sd S v) Y) A H0 H1 locs1 → W p l e R s m args below meth c H1 locs1 cells slots Q (F0 m (pc + 3) ls rest)) : W p l e R s m args below meth c H locs cells slots Q (F0 m pc ls (.int v :: .ref (q 0) :: rest)) := r_put E G 0 rfl rfl inU9 tyX9_ok nmX9 2 (by decide) hl rfl rfl rfl (Nat.le_of_ble_eq_true rfl) rfl hdg kk
theorem gM_0_3 (E : EW p m c cc nL s args own Z) (G : GW Z (MW Z q S Y) A H0 H locs) {idx : Nat} (hl : Cond.fieldLink own idx "ConeRoundsModel" "bills" "I" ∈ wU) (hdg : decode cc pc = .ok (.getfield idx, 3)) (kk : W p l e R s m args below meth c H locs cells slots Q (F0 m (pc + 3) ls (.int (s_bi S) :: rest))) : W p l e R s m args below meth c H locs cells slots Q (F0 m pc ls (.ref (q 0) :: rest)) := r_get E G 0 rfl rfl inU9 3 (by decide) hl rfl rfl hdg kk
theorem pM_0_3 (E : EW p m c cc nL s args own Z) (G : GW Z (MW Z q S Y) A H0 H locs) {idx : Nat} (hl : Cond.fieldLink own idx "ConeRoundsModel" "bills" "I" ∈ wU) {v : Int32} (hdg : decode cc pc = .ok (.putfield idx, 3)) (kk : ∀ (H1 : Heap) (locs1 : List Loc), GW Z (MW Z q (u_bi S v) Y) A H0 H1 locs1 → W p l e R s m args below meth c H1 locs1 cells slots Q (F0 m (pc + 3) ls rest)) : W p l e R s m args below meth c H locs cells slots Q (F0 m pc ls (.int v :: .ref (q 0) :: rest)) := r_put E G 0 rfl rfl inU9 tyX9_ok nmX9 3 (by decide) hl rfl rfl rfl (Nat.le_of_ble_eq_true rfl) rfl hdg kk
theorem gM_0_4 (E : EW p m c cc nL s args own Z) (G : GW Z (MW Z q S Y) A H0 H locs) {idx : Nat} (hl : Cond.fieldLink own idx "ConeRoundsModel" "waiting" "I" ∈ wU) (hdg : decode cc pc = .ok (.getfield idx, 3)) (kk : W p l e R s m args below meth c H locs cells slots Q (F0 m (pc + 3) ls (.int (s_wa S) :: rest))) : W p l e R s m args below meth c H locs cells slots Q (F0 m pc ls (.ref (q 0) :: rest)) := r_get E G 0 rfl rfl inU9 4 (by decide) hl rfl rfl hdg kk
theorem pM_0_4 (E : EW p m c cc nL s args own Z) (G : GW Z (MW Z q S Y) A H0 H locs) {idx : Nat} (hl : Cond.fieldLink own idx "ConeRoundsModel" "waiting" "I" ∈ wU) {v : Int32} (hdg : decode cc pc = .ok (.putfield idx, 3)) (kk : ∀ (H1 : Heap) (locs1 : List Loc), GW Z (MW Z q (u_wa S v) Y) A H0 H1 locs1 → W p l e R s m args below meth c H1 locs1 cells slots Q (F0 m (pc + 3) ls rest)) : W p l e R s m args below meth c H locs cells slots Q (F0 m pc ls (.int v :: .ref (q 0) :: rest)) := r_put E G 0 rfl rfl inU9 tyX9_ok nmX9 4 (by decide) hl rfl rfl rfl (Nat.le_of_ble_eq_true rfl) rfl hdg kk
theorem gM_0_5 (E : EW p m c cc nL s args own Z) (G : GW Z (MW Z q S Y) A H0 H locs) {idx : Nat} (hl : Cond.fieldLink own idx "ConeRoundsModel" "heatNow" "I" ∈ wU) (hdg : decode cc pc = .ok (.getfield idx, 3)) (kk : W p l e R s m args below meth c H locs cells slots Q (F0 m (pc + 3) ls (.int (s_he S) :: rest))) : W p l e R s m args below meth c H locs cells slots Q (F0 m pc ls (.ref (q 0) :: rest)) := r_get E G 0 rfl rfl inU9 5 (by decide) hl rfl rfl hdg kk
theorem pM_0_5 (E : EW p m c cc nL s args own Z) (G : GW Z (MW Z q S Y) A H0 H locs) {idx : Nat} (hl : Cond.fieldLink own idx "ConeRoundsModel" "heatNow" "I" ∈ wU) {v : Int32} (hdg : decode cc pc = .ok (.putfield idx, 3)) (kk : ∀ (H1 : Heap) (locs1 : List Loc), GW Z (MW Z q (u_he S v) Y) A H0 H1 locs1 → W p l e R s m args below meth c H1 locs1 cells slots Q (F0 m (pc + 3) ls rest)) : W p l e R s m args below meth c H locs cells slots Q (F0 m pc ls (.int v :: .ref (q 0) :: rest)) := r_put E G 0 rfl rfl inU9 tyX9_ok nmX9 5 (by decide) hl rfl rfl rfl (Nat.le_of_ble_eq_true rfl) rfl hdg kk
theorem gM_0_6 (E : EW p m c cc nL s args own Z) (G : GW Z (MW Z q S Y) A H0 H locs) {idx : Nat} (hl : Cond.fieldLink own idx "ConeRoundsModel" "barFrom" "I" ∈ wU) (hdg : decode cc pc = .ok (.getfield idx, 3)) (kk : W p l e R s m args below meth c H locs cells slots Q (F0 m (pc + 3) ls (.int (s_bf S) :: rest))) : W p l e R s m args below meth c H locs cells slots Q (F0 m pc ls (.ref (q 0) :: rest)) := r_get E G 0 rfl rfl inU9 6 (by decide) hl rfl rfl hdg kk
theorem pM_0_6 (E : EW p m c cc nL s args own Z) (G : GW Z (MW Z q S Y) A H0 H locs) {idx : Nat} (hl : Cond.fieldLink own idx "ConeRoundsModel" "barFrom" "I" ∈ wU) {v : Int32} (hdg : decode cc pc = .ok (.putfield idx, 3)) (kk : ∀ (H1 : Heap) (locs1 : List Loc), GW Z (MW Z q (u_bf S v) Y) A H0 H1 locs1 → W p l e R s m args below meth c H1 locs1 cells slots Q (F0 m (pc + 3) ls rest)) : W p l e R s m args below meth c H locs cells slots Q (F0 m pc ls (.int v :: .ref (q 0) :: rest)) := r_put E G 0 rfl rfl inU9 tyX9_ok nmX9 6 (by decide) hl rfl rfl rfl (Nat.le_of_ble_eq_true rfl) rfl hdg kk
theorem gM_0_7 (E : EW p m c cc nL s args own Z) (G : GW Z (MW Z q S Y) A H0 H locs) {idx : Nat} (hl : Cond.fieldLink own idx "ConeRoundsModel" "barTo" "I" ∈ wU) (hdg : decode cc pc = .ok (.getfield idx, 3)) (kk : W p l e R s m args below meth c H locs cells slots Q (F0 m (pc + 3) ls (.int (s_bt S) :: rest))) : W p l e R s m args below meth c H locs cells slots Q (F0 m pc ls (.ref (q 0) :: rest)) := r_get E G 0 rfl rfl inU9 7 (by decide) hl rfl rfl hdg kk
theorem pM_0_7 (E : EW p m c cc nL s args own Z) (G : GW Z (MW Z q S Y) A H0 H locs) {idx : Nat} (hl : Cond.fieldLink own idx "ConeRoundsModel" "barTo" "I" ∈ wU) {v : Int32} (hdg : decode cc pc = .ok (.putfield idx, 3)) (kk : ∀ (H1 : Heap) (locs1 : List Loc), GW Z (MW Z q (u_bt S v) Y) A H0 H1 locs1 → W p l e R s m args below meth c H1 locs1 cells slots Q (F0 m (pc + 3) ls rest)) : W p l e R s m args below meth c H locs cells slots Q (F0 m pc ls (.int v :: .ref (q 0) :: rest)) := r_put E G 0 rfl rfl inU9 tyX9_ok nmX9 7 (by decide) hl rfl rfl rfl (Nat.le_of_ble_eq_true rfl) rfl hdg kk
theorem gM_0_8 (E : EW p m c cc nL s args own Z) (G : GW Z (MW Z q S Y) A H0 H locs) {idx : Nat} (hl : Cond.fieldLink own idx "ConeRoundsModel" "chimeMost" "I" ∈ wU) (hdg : decode cc pc = .ok (.getfield idx, 3)) (kk : W p l e R s m args below meth c H locs cells slots Q (F0 m (pc + 3) ls (.int (s_cm S) :: rest))) : W p l e R s m args below meth c H locs cells slots Q (F0 m pc ls (.ref (q 0) :: rest)) := r_get E G 0 rfl rfl inU9 8 (by decide) hl rfl rfl hdg kk
theorem pM_0_8 (E : EW p m c cc nL s args own Z) (G : GW Z (MW Z q S Y) A H0 H locs) {idx : Nat} (hl : Cond.fieldLink own idx "ConeRoundsModel" "chimeMost" "I" ∈ wU) {v : Int32} (hdg : decode cc pc = .ok (.putfield idx, 3)) (kk : ∀ (H1 : Heap) (locs1 : List Loc), GW Z (MW Z q (u_cm S v) Y) A H0 H1 locs1 → W p l e R s m args below meth c H1 locs1 cells slots Q (F0 m (pc + 3) ls rest)) : W p l e R s m args below meth c H locs cells slots Q (F0 m pc ls (.int v :: .ref (q 0) :: rest)) := r_put E G 0 rfl rfl inU9 tyX9_ok nmX9 8 (by decide) hl rfl rfl rfl (Nat.le_of_ble_eq_true rfl) rfl hdg kk
theorem gM_0_9 (E : EW p m c cc nL s args own Z) (G : GW Z (MW Z q S Y) A H0 H locs) {idx : Nat} (hl : Cond.fieldLink own idx "ConeRoundsModel" "creditNow" "I" ∈ wU) (hdg : decode cc pc = .ok (.getfield idx, 3)) (kk : W p l e R s m args below meth c H locs cells slots Q (F0 m (pc + 3) ls (.int (s_cr S) :: rest))) : W p l e R s m args below meth c H locs cells slots Q (F0 m pc ls (.ref (q 0) :: rest)) := r_get E G 0 rfl rfl inU9 9 (by decide) hl rfl rfl hdg kk
theorem pM_0_9 (E : EW p m c cc nL s args own Z) (G : GW Z (MW Z q S Y) A H0 H locs) {idx : Nat} (hl : Cond.fieldLink own idx "ConeRoundsModel" "creditNow" "I" ∈ wU) {v : Int32} (hdg : decode cc pc = .ok (.putfield idx, 3)) (kk : ∀ (H1 : Heap) (locs1 : List Loc), GW Z (MW Z q (u_cr S v) Y) A H0 H1 locs1 → W p l e R s m args below meth c H1 locs1 cells slots Q (F0 m (pc + 3) ls rest)) : W p l e R s m args below meth c H locs cells slots Q (F0 m pc ls (.int v :: .ref (q 0) :: rest)) := r_put E G 0 rfl rfl inU9 tyX9_ok nmX9 9 (by decide) hl rfl rfl rfl (Nat.le_of_ble_eq_true rfl) rfl hdg kk
theorem gM_0_10 (E : EW p m c cc nL s args own Z) (G : GW Z (MW Z q S Y) A H0 H locs) {idx : Nat} (hl : Cond.fieldLink own idx "ConeRoundsModel" "school" "[I" ∈ wU) (hdg : decode cc pc = .ok (.getfield idx, 3)) (kk : W p l e R s m args below meth c H locs cells slots Q (F0 m (pc + 3) ls (.ref (q 1) :: rest))) : W p l e R s m args below meth c H locs cells slots Q (F0 m pc ls (.ref (q 0) :: rest)) := r_get E G 0 rfl rfl inU9 10 (by decide) hl rfl rfl hdg kk
theorem gM_0_11 (E : EW p m c cc nL s args own Z) (G : GW Z (MW Z q S Y) A H0 H locs) {idx : Nat} (hl : Cond.fieldLink own idx "ConeRoundsModel" "ways" "[I" ∈ wU) (hdg : decode cc pc = .ok (.getfield idx, 3)) (kk : W p l e R s m args below meth c H locs cells slots Q (F0 m (pc + 3) ls (.ref (q 2) :: rest))) : W p l e R s m args below meth c H locs cells slots Q (F0 m pc ls (.ref (q 0) :: rest)) := r_get E G 0 rfl rfl inU9 11 (by decide) hl rfl rfl hdg kk
theorem gM_0_12 (E : EW p m c cc nL s args own Z) (G : GW Z (MW Z q S Y) A H0 H locs) {idx : Nat} (hl : Cond.fieldLink own idx "ConeRoundsModel" "wishes" "[I" ∈ wU) (hdg : decode cc pc = .ok (.getfield idx, 3)) (kk : W p l e R s m args below meth c H locs cells slots Q (F0 m (pc + 3) ls (.ref (q 3) :: rest))) : W p l e R s m args below meth c H locs cells slots Q (F0 m pc ls (.ref (q 0) :: rest)) := r_get E G 0 rfl rfl inU9 12 (by decide) hl rfl rfl hdg kk
theorem gM_0_13 (E : EW p m c cc nL s args own Z) (G : GW Z (MW Z q S Y) A H0 H locs) {idx : Nat} (hl : Cond.fieldLink own idx "ConeRoundsModel" "kind" "[I" ∈ wU) (hdg : decode cc pc = .ok (.getfield idx, 3)) (kk : W p l e R s m args below meth c H locs cells slots Q (F0 m (pc + 3) ls (.ref (q 4) :: rest))) : W p l e R s m args below meth c H locs cells slots Q (F0 m pc ls (.ref (q 0) :: rest)) := r_get E G 0 rfl rfl inU9 13 (by decide) hl rfl rfl hdg kk
theorem gM_0_14 (E : EW p m c cc nL s args own Z) (G : GW Z (MW Z q S Y) A H0 H locs) {idx : Nat} (hl : Cond.fieldLink own idx "ConeRoundsModel" "stocks" "[I" ∈ wU) (hdg : decode cc pc = .ok (.getfield idx, 3)) (kk : W p l e R s m args below meth c H locs cells slots Q (F0 m (pc + 3) ls (.ref (q 5) :: rest))) : W p l e R s m args below meth c H locs cells slots Q (F0 m pc ls (.ref (q 0) :: rest)) := r_get E G 0 rfl rfl inU9 14 (by decide) hl rfl rfl hdg kk
theorem gM_0_15 (E : EW p m c cc nL s args own Z) (G : GW Z (MW Z q S Y) A H0 H locs) {idx : Nat} (hl : Cond.fieldLink own idx "ConeRoundsModel" "licences" "[I" ∈ wU) (hdg : decode cc pc = .ok (.getfield idx, 3)) (kk : W p l e R s m args below meth c H locs cells slots Q (F0 m (pc + 3) ls (.ref (q 6) :: rest))) : W p l e R s m args below meth c H locs cells slots Q (F0 m pc ls (.ref (q 0) :: rest)) := r_get E G 0 rfl rfl inU9 15 (by decide) hl rfl rfl hdg kk
theorem gM_0_16 (E : EW p m c cc nL s args own Z) (G : GW Z (MW Z q S Y) A H0 H locs) {idx : Nat} (hl : Cond.fieldLink own idx "ConeRoundsModel" "standVan" "[I" ∈ wU) (hdg : decode cc pc = .ok (.getfield idx, 3)) (kk : W p l e R s m args below meth c H locs cells slots Q (F0 m (pc + 3) ls (.ref (q 7) :: rest))) : W p l e R s m args below meth c H locs cells slots Q (F0 m pc ls (.ref (q 0) :: rest)) := r_get E G 0 rfl rfl inU9 16 (by decide) hl rfl rfl hdg kk
theorem gM_0_17 (E : EW p m c cc nL s args own Z) (G : GW Z (MW Z q S Y) A H0 H locs) {idx : Nat} (hl : Cond.fieldLink own idx "ConeRoundsModel" "standStreet" "[I" ∈ wU) (hdg : decode cc pc = .ok (.getfield idx, 3)) (kk : W p l e R s m args below meth c H locs cells slots Q (F0 m (pc + 3) ls (.ref (q 8) :: rest))) : W p l e R s m args below meth c H locs cells slots Q (F0 m pc ls (.ref (q 0) :: rest)) := r_get E G 0 rfl rfl inU9 17 (by decide) hl rfl rfl hdg kk
theorem gM_0_18 (E : EW p m c cc nL s args own Z) (G : GW Z (MW Z q S Y) A H0 H locs) {idx : Nat} (hl : Cond.fieldLink own idx "ConeRoundsModel" "standHour" "[I" ∈ wU) (hdg : decode cc pc = .ok (.getfield idx, 3)) (kk : W p l e R s m args below meth c H locs cells slots Q (F0 m (pc + 3) ls (.ref (q 9) :: rest))) : W p l e R s m args below meth c H locs cells slots Q (F0 m pc ls (.ref (q 0) :: rest)) := r_get E G 0 rfl rfl inU9 18 (by decide) hl rfl rfl hdg kk
theorem gM_0_19 (E : EW p m c cc nL s args own Z) (G : GW Z (MW Z q S Y) A H0 H locs) {idx : Nat} (hl : Cond.fieldLink own idx "ConeRoundsModel" "standChime" "[I" ∈ wU) (hdg : decode cc pc = .ok (.getfield idx, 3)) (kk : W p l e R s m args below meth c H locs cells slots Q (F0 m (pc + 3) ls (.ref (q 10) :: rest))) : W p l e R s m args below meth c H locs cells slots Q (F0 m pc ls (.ref (q 0) :: rest)) := r_get E G 0 rfl rfl inU9 19 (by decide) hl rfl rfl hdg kk
theorem gM_0_20 (E : EW p m c cc nL s args own Z) (G : GW Z (MW Z q S Y) A H0 H locs) {idx : Nat} (hl : Cond.fieldLink own idx "ConeRoundsModel" "left0" "[I" ∈ wU) (hdg : decode cc pc = .ok (.getfield idx, 3)) (kk : W p l e R s m args below meth c H locs cells slots Q (F0 m (pc + 3) ls (.ref (q 11) :: rest))) : W p l e R s m args below meth c H locs cells slots Q (F0 m pc ls (.ref (q 0) :: rest)) := r_get E G 0 rfl rfl inU9 20 (by decide) hl rfl rfl hdg kk
theorem gM_0_21 (E : EW p m c cc nL s args own Z) (G : GW Z (MW Z q S Y) A H0 H locs) {idx : Nat} (hl : Cond.fieldLink own idx "ConeRoundsModel" "billDay" "[I" ∈ wU) (hdg : decode cc pc = .ok (.getfield idx, 3)) (kk : W p l e R s m args below meth c H locs cells slots Q (F0 m (pc + 3) ls (.ref (q 12) :: rest))) : W p l e R s m args below meth c H locs cells slots Q (F0 m pc ls (.ref (q 0) :: rest)) := r_get E G 0 rfl rfl inU9 21 (by decide) hl rfl rfl hdg kk
theorem gM_0_22 (E : EW p m c cc nL s args own Z) (G : GW Z (MW Z q S Y) A H0 H locs) {idx : Nat} (hl : Cond.fieldLink own idx "ConeRoundsModel" "due" "[I" ∈ wU) (hdg : decode cc pc = .ok (.getfield idx, 3)) (kk : W p l e R s m args below meth c H locs cells slots Q (F0 m (pc + 3) ls (.ref (q 13) :: rest))) : W p l e R s m args below meth c H locs cells slots Q (F0 m pc ls (.ref (q 0) :: rest)) := r_get E G 0 rfl rfl inU9 22 (by decide) hl rfl rfl hdg kk
theorem gM_0_23 (E : EW p m c cc nL s args own Z) (G : GW Z (MW Z q S Y) A H0 H locs) {idx : Nat} (hl : Cond.fieldLink own idx "ConeRoundsModel" "waits" "[I" ∈ wU) (hdg : decode cc pc = .ok (.getfield idx, 3)) (kk : W p l e R s m args below meth c H locs cells slots Q (F0 m (pc + 3) ls (.ref (q 14) :: rest))) : W p l e R s m args below meth c H locs cells slots Q (F0 m pc ls (.ref (q 0) :: rest)) := r_get E G 0 rfl rfl inU9 23 (by decide) hl rfl rfl hdg kk
theorem gM_0_24 (E : EW p m c cc nL s args own Z) (G : GW Z (MW Z q S Y) A H0 H locs) {idx : Nat} (hl : Cond.fieldLink own idx "ConeRoundsModel" "counted" "[I" ∈ wU) (hdg : decode cc pc = .ok (.getfield idx, 3)) (kk : W p l e R s m args below meth c H locs cells slots Q (F0 m (pc + 3) ls (.ref (q 15) :: rest))) : W p l e R s m args below meth c H locs cells slots Q (F0 m pc ls (.ref (q 0) :: rest)) := r_get E G 0 rfl rfl inU9 24 (by decide) hl rfl rfl hdg kk
theorem gM_0_25 (E : EW p m c cc nL s args own Z) (G : GW Z (MW Z q S Y) A H0 H locs) {idx : Nat} (hl : Cond.fieldLink own idx "ConeRoundsModel" "rowStreet" "[I" ∈ wU) (hdg : decode cc pc = .ok (.getfield idx, 3)) (kk : W p l e R s m args below meth c H locs cells slots Q (F0 m (pc + 3) ls (.ref (q 16) :: rest))) : W p l e R s m args below meth c H locs cells slots Q (F0 m pc ls (.ref (q 0) :: rest)) := r_get E G 0 rfl rfl inU9 25 (by decide) hl rfl rfl hdg kk
theorem gM_0_26 (E : EW p m c cc nL s args own Z) (G : GW Z (MW Z q S Y) A H0 H locs) {idx : Nat} (hl : Cond.fieldLink own idx "ConeRoundsModel" "rowHour" "[I" ∈ wU) (hdg : decode cc pc = .ok (.getfield idx, 3)) (kk : W p l e R s m args below meth c H locs cells slots Q (F0 m (pc + 3) ls (.ref (q 17) :: rest))) : W p l e R s m args below meth c H locs cells slots Q (F0 m pc ls (.ref (q 0) :: rest)) := r_get E G 0 rfl rfl inU9 26 (by decide) hl rfl rfl hdg kk
theorem gM_0_27 (E : EW p m c cc nL s args own Z) (G : GW Z (MW Z q S Y) A H0 H locs) {idx : Nat} (hl : Cond.fieldLink own idx "ConeRoundsModel" "sold" "[I" ∈ wU) (hdg : decode cc pc = .ok (.getfield idx, 3)) (kk : W p l e R s m args below meth c H locs cells slots Q (F0 m (pc + 3) ls (.ref (q 18) :: rest))) : W p l e R s m args below meth c H locs cells slots Q (F0 m pc ls (.ref (q 0) :: rest)) := r_get E G 0 rfl rfl inU9 27 (by decide) hl rfl rfl hdg kk
theorem gM_0_28 (E : EW p m c cc nL s args own Z) (G : GW Z (MW Z q S Y) A H0 H locs) {idx : Nat} (hl : Cond.fieldLink own idx "ConeRoundsModel" "kept" "[I" ∈ wU) (hdg : decode cc pc = .ok (.getfield idx, 3)) (kk : W p l e R s m args below meth c H locs cells slots Q (F0 m (pc + 3) ls (.ref (q 19) :: rest))) : W p l e R s m args below meth c H locs cells slots Q (F0 m pc ls (.ref (q 0) :: rest)) := r_get E G 0 rfl rfl inU9 28 (by decide) hl rfl rfl hdg kk
theorem gM_0_29 (E : EW p m c cc nL s args own Z) (G : GW Z (MW Z q S Y) A H0 H locs) {idx : Nat} (hl : Cond.fieldLink own idx "ConeRoundsModel" "tried" "[I" ∈ wU) (hdg : decode cc pc = .ok (.getfield idx, 3)) (kk : W p l e R s m args below meth c H locs cells slots Q (F0 m (pc + 3) ls (.ref (q 20) :: rest))) : W p l e R s m args below meth c H locs cells slots Q (F0 m pc ls (.ref (q 0) :: rest)) := r_get E G 0 rfl rfl inU9 29 (by decide) hl rfl rfl hdg kk
theorem gM_0_30 (E : EW p m c cc nL s args own Z) (G : GW Z (MW Z q S Y) A H0 H locs) {idx : Nat} (hl : Cond.fieldLink own idx "ConeRoundsModel" "bestStreet" "[I" ∈ wU) (hdg : decode cc pc = .ok (.getfield idx, 3)) (kk : W p l e R s m args below meth c H locs cells slots Q (F0 m (pc + 3) ls (.ref (q 21) :: rest))) : W p l e R s m args below meth c H locs cells slots Q (F0 m pc ls (.ref (q 0) :: rest)) := r_get E G 0 rfl rfl inU9 30 (by decide) hl rfl rfl hdg kk
theorem gM_0_31 (E : EW p m c cc nL s args own Z) (G : GW Z (MW Z q S Y) A H0 H locs) {idx : Nat} (hl : Cond.fieldLink own idx "ConeRoundsModel" "bestHour" "[I" ∈ wU) (hdg : decode cc pc = .ok (.getfield idx, 3)) (kk : W p l e R s m args below meth c H locs cells slots Q (F0 m (pc + 3) ls (.ref (q 22) :: rest))) : W p l e R s m args below meth c H locs cells slots Q (F0 m pc ls (.ref (q 0) :: rest)) := r_get E G 0 rfl rfl inU9 31 (by decide) hl rfl rfl hdg kk
theorem gM_0_32 (E : EW p m c cc nL s args own Z) (G : GW Z (MW Z q S Y) A H0 H locs) {idx : Nat} (hl : Cond.fieldLink own idx "ConeRoundsModel" "bestMany" "I" ∈ wU) (hdg : decode cc pc = .ok (.getfield idx, 3)) (kk : W p l e R s m args below meth c H locs cells slots Q (F0 m (pc + 3) ls (.int (y_bm Y) :: rest))) : W p l e R s m args below meth c H locs cells slots Q (F0 m pc ls (.ref (q 0) :: rest)) := r_get E G 0 rfl rfl inU9 32 (by decide) hl rfl rfl hdg kk
theorem pM_0_32 (E : EW p m c cc nL s args own Z) (G : GW Z (MW Z q S Y) A H0 H locs) {idx : Nat} (hl : Cond.fieldLink own idx "ConeRoundsModel" "bestMany" "I" ∈ wU) {v : Int32} (hdg : decode cc pc = .ok (.putfield idx, 3)) (kk : ∀ (H1 : Heap) (locs1 : List Loc), GW Z (MW Z q S (z_bm Y v)) A H0 H1 locs1 → W p l e R s m args below meth c H1 locs1 cells slots Q (F0 m (pc + 3) ls rest)) : W p l e R s m args below meth c H locs cells slots Q (F0 m pc ls (.int v :: .ref (q 0) :: rest)) := r_put E G 0 rfl rfl inU9 tyX9_ok nmX9 32 (by decide) hl rfl rfl rfl (Nat.le_of_ble_eq_true rfl) rfl hdg kk
theorem gM_0_33 (E : EW p m c cc nL s args own Z) (G : GW Z (MW Z q S Y) A H0 H locs) {idx : Nat} (hl : Cond.fieldLink own idx "ConeRoundsModel" "bestSold" "I" ∈ wU) (hdg : decode cc pc = .ok (.getfield idx, 3)) (kk : W p l e R s m args below meth c H locs cells slots Q (F0 m (pc + 3) ls (.int (y_bl Y) :: rest))) : W p l e R s m args below meth c H locs cells slots Q (F0 m pc ls (.ref (q 0) :: rest)) := r_get E G 0 rfl rfl inU9 33 (by decide) hl rfl rfl hdg kk
theorem pM_0_33 (E : EW p m c cc nL s args own Z) (G : GW Z (MW Z q S Y) A H0 H locs) {idx : Nat} (hl : Cond.fieldLink own idx "ConeRoundsModel" "bestSold" "I" ∈ wU) {v : Int32} (hdg : decode cc pc = .ok (.putfield idx, 3)) (kk : ∀ (H1 : Heap) (locs1 : List Loc), GW Z (MW Z q S (z_bl Y v)) A H0 H1 locs1 → W p l e R s m args below meth c H1 locs1 cells slots Q (F0 m (pc + 3) ls rest)) : W p l e R s m args below meth c H locs cells slots Q (F0 m pc ls (.int v :: .ref (q 0) :: rest)) := r_put E G 0 rfl rfl inU9 tyX9_ok nmX9 33 (by decide) hl rfl rfl rfl (Nat.le_of_ble_eq_true rfl) rfl hdg kk
theorem gM_0_34 (E : EW p m c cc nL s args own Z) (G : GW Z (MW Z q S Y) A H0 H locs) {idx : Nat} (hl : Cond.fieldLink own idx "ConeRoundsModel" "bestKept" "I" ∈ wU) (hdg : decode cc pc = .ok (.getfield idx, 3)) (kk : W p l e R s m args below meth c H locs cells slots Q (F0 m (pc + 3) ls (.int (y_bk Y) :: rest))) : W p l e R s m args below meth c H locs cells slots Q (F0 m pc ls (.ref (q 0) :: rest)) := r_get E G 0 rfl rfl inU9 34 (by decide) hl rfl rfl hdg kk
theorem pM_0_34 (E : EW p m c cc nL s args own Z) (G : GW Z (MW Z q S Y) A H0 H locs) {idx : Nat} (hl : Cond.fieldLink own idx "ConeRoundsModel" "bestKept" "I" ∈ wU) {v : Int32} (hdg : decode cc pc = .ok (.putfield idx, 3)) (kk : ∀ (H1 : Heap) (locs1 : List Loc), GW Z (MW Z q S (z_bk Y v)) A H0 H1 locs1 → W p l e R s m args below meth c H1 locs1 cells slots Q (F0 m (pc + 3) ls rest)) : W p l e R s m args below meth c H locs cells slots Q (F0 m pc ls (.int v :: .ref (q 0) :: rest)) := r_put E G 0 rfl rfl inU9 tyX9_ok nmX9 34 (by decide) hl rfl rfl rfl (Nat.le_of_ble_eq_true rfl) rfl hdg kk
theorem aM_1 (E : EW p m c cc nL s args own Z) (G : GW Z (MW Z q S Y) A H0 H locs) {i : Int32} (hin : vp_in i 6) (hdg : decode cc pc = .ok (.iaload, 1)) (kk : W p l e R s m args below meth c H locs cells slots Q (F0 m (pc + 1) ls (.int (ar (s_sc S) i) :: rest))) : W p l e R s m args below meth c H locs cells slots Q (F0 m pc ls (.int i :: .ref (q 1) :: rest)) := r_ald E G 1 rfl hin hdg kk
theorem tM_1 (E : EW p m c cc nL s args own Z) (G : GW Z (MW Z q S Y) A H0 H locs) {i x : Int32} (hin : vp_in i 6) (hdg : decode cc pc = .ok (.iastore, 1)) (kk : ∀ (H1 : Heap) (locs1 : List Loc), GW Z (MW Z q (u_sc S (au (s_sc S) i x)) Y) A H0 H1 locs1 → W p l e R s m args below meth c H1 locs1 cells slots Q (F0 m (pc + 1) ls rest)) : W p l e R s m args below meth c H locs cells slots Q (F0 m pc ls (.int x :: .int i :: .ref (q 1) :: rest)) := r_ast E G 1 rfl hin rfl hdg kk
theorem aM_2 (E : EW p m c cc nL s args own Z) (G : GW Z (MW Z q S Y) A H0 H locs) {i : Int32} (hin : vp_in i 36) (hdg : decode cc pc = .ok (.iaload, 1)) (kk : W p l e R s m args below meth c H locs cells slots Q (F0 m (pc + 1) ls (.int (ar (s_wy S) i) :: rest))) : W p l e R s m args below meth c H locs cells slots Q (F0 m pc ls (.int i :: .ref (q 2) :: rest)) := r_ald E G 2 rfl hin hdg kk
theorem tM_2 (E : EW p m c cc nL s args own Z) (G : GW Z (MW Z q S Y) A H0 H locs) {i x : Int32} (hin : vp_in i 36) (hdg : decode cc pc = .ok (.iastore, 1)) (kk : ∀ (H1 : Heap) (locs1 : List Loc), GW Z (MW Z q (u_wy S (au (s_wy S) i x)) Y) A H0 H1 locs1 → W p l e R s m args below meth c H1 locs1 cells slots Q (F0 m (pc + 1) ls rest)) : W p l e R s m args below meth c H locs cells slots Q (F0 m pc ls (.int x :: .int i :: .ref (q 2) :: rest)) := r_ast E G 2 rfl hin rfl hdg kk
theorem aM_3 (E : EW p m c cc nL s args own Z) (G : GW Z (MW Z q S Y) A H0 H locs) {i : Int32} (hin : vp_in i 72) (hdg : decode cc pc = .ok (.iaload, 1)) (kk : W p l e R s m args below meth c H locs cells slots Q (F0 m (pc + 1) ls (.int (ar (s_wi S) i) :: rest))) : W p l e R s m args below meth c H locs cells slots Q (F0 m pc ls (.int i :: .ref (q 3) :: rest)) := r_ald E G 3 rfl hin hdg kk
theorem tM_3 (E : EW p m c cc nL s args own Z) (G : GW Z (MW Z q S Y) A H0 H locs) {i x : Int32} (hin : vp_in i 72) (hdg : decode cc pc = .ok (.iastore, 1)) (kk : ∀ (H1 : Heap) (locs1 : List Loc), GW Z (MW Z q (u_wi S (au (s_wi S) i x)) Y) A H0 H1 locs1 → W p l e R s m args below meth c H1 locs1 cells slots Q (F0 m (pc + 1) ls rest)) : W p l e R s m args below meth c H locs cells slots Q (F0 m pc ls (.int x :: .int i :: .ref (q 3) :: rest)) := r_ast E G 3 rfl hin rfl hdg kk
theorem aM_4 (E : EW p m c cc nL s args own Z) (G : GW Z (MW Z q S Y) A H0 H locs) {i : Int32} (hin : vp_in i 4) (hdg : decode cc pc = .ok (.iaload, 1)) (kk : W p l e R s m args below meth c H locs cells slots Q (F0 m (pc + 1) ls (.int (ar (s_ki S) i) :: rest))) : W p l e R s m args below meth c H locs cells slots Q (F0 m pc ls (.int i :: .ref (q 4) :: rest)) := r_ald E G 4 rfl hin hdg kk
theorem tM_4 (E : EW p m c cc nL s args own Z) (G : GW Z (MW Z q S Y) A H0 H locs) {i x : Int32} (hin : vp_in i 4) (hdg : decode cc pc = .ok (.iastore, 1)) (kk : ∀ (H1 : Heap) (locs1 : List Loc), GW Z (MW Z q (u_ki S (au (s_ki S) i x)) Y) A H0 H1 locs1 → W p l e R s m args below meth c H1 locs1 cells slots Q (F0 m (pc + 1) ls rest)) : W p l e R s m args below meth c H locs cells slots Q (F0 m pc ls (.int x :: .int i :: .ref (q 4) :: rest)) := r_ast E G 4 rfl hin rfl hdg kk
theorem aM_5 (E : EW p m c cc nL s args own Z) (G : GW Z (MW Z q S Y) A H0 H locs) {i : Int32} (hin : vp_in i 4) (hdg : decode cc pc = .ok (.iaload, 1)) (kk : W p l e R s m args below meth c H locs cells slots Q (F0 m (pc + 1) ls (.int (ar (s_so S) i) :: rest))) : W p l e R s m args below meth c H locs cells slots Q (F0 m pc ls (.int i :: .ref (q 5) :: rest)) := r_ald E G 5 rfl hin hdg kk
theorem tM_5 (E : EW p m c cc nL s args own Z) (G : GW Z (MW Z q S Y) A H0 H locs) {i x : Int32} (hin : vp_in i 4) (hdg : decode cc pc = .ok (.iastore, 1)) (kk : ∀ (H1 : Heap) (locs1 : List Loc), GW Z (MW Z q (u_so S (au (s_so S) i x)) Y) A H0 H1 locs1 → W p l e R s m args below meth c H1 locs1 cells slots Q (F0 m (pc + 1) ls rest)) : W p l e R s m args below meth c H locs cells slots Q (F0 m pc ls (.int x :: .int i :: .ref (q 5) :: rest)) := r_ast E G 5 rfl hin rfl hdg kk
theorem aM_6 (E : EW p m c cc nL s args own Z) (G : GW Z (MW Z q S Y) A H0 H locs) {i : Int32} (hin : vp_in i 4) (hdg : decode cc pc = .ok (.iaload, 1)) (kk : W p l e R s m args below meth c H locs cells slots Q (F0 m (pc + 1) ls (.int (ar (s_li S) i) :: rest))) : W p l e R s m args below meth c H locs cells slots Q (F0 m pc ls (.int i :: .ref (q 6) :: rest)) := r_ald E G 6 rfl hin hdg kk
theorem tM_6 (E : EW p m c cc nL s args own Z) (G : GW Z (MW Z q S Y) A H0 H locs) {i x : Int32} (hin : vp_in i 4) (hdg : decode cc pc = .ok (.iastore, 1)) (kk : ∀ (H1 : Heap) (locs1 : List Loc), GW Z (MW Z q (u_li S (au (s_li S) i x)) Y) A H0 H1 locs1 → W p l e R s m args below meth c H1 locs1 cells slots Q (F0 m (pc + 1) ls rest)) : W p l e R s m args below meth c H locs cells slots Q (F0 m pc ls (.int x :: .int i :: .ref (q 6) :: rest)) := r_ast E G 6 rfl hin rfl hdg kk
theorem aM_7 (E : EW p m c cc nL s args own Z) (G : GW Z (MW Z q S Y) A H0 H locs) {i : Int32} (hin : vp_in i 24) (hdg : decode cc pc = .ok (.iaload, 1)) (kk : W p l e R s m args below meth c H locs cells slots Q (F0 m (pc + 1) ls (.int (ar (s_sv S) i) :: rest))) : W p l e R s m args below meth c H locs cells slots Q (F0 m pc ls (.int i :: .ref (q 7) :: rest)) := r_ald E G 7 rfl hin hdg kk
theorem tM_7 (E : EW p m c cc nL s args own Z) (G : GW Z (MW Z q S Y) A H0 H locs) {i x : Int32} (hin : vp_in i 24) (hdg : decode cc pc = .ok (.iastore, 1)) (kk : ∀ (H1 : Heap) (locs1 : List Loc), GW Z (MW Z q (u_sv S (au (s_sv S) i x)) Y) A H0 H1 locs1 → W p l e R s m args below meth c H1 locs1 cells slots Q (F0 m (pc + 1) ls rest)) : W p l e R s m args below meth c H locs cells slots Q (F0 m pc ls (.int x :: .int i :: .ref (q 7) :: rest)) := r_ast E G 7 rfl hin rfl hdg kk
theorem aM_8 (E : EW p m c cc nL s args own Z) (G : GW Z (MW Z q S Y) A H0 H locs) {i : Int32} (hin : vp_in i 24) (hdg : decode cc pc = .ok (.iaload, 1)) (kk : W p l e R s m args below meth c H locs cells slots Q (F0 m (pc + 1) ls (.int (ar (s_ss S) i) :: rest))) : W p l e R s m args below meth c H locs cells slots Q (F0 m pc ls (.int i :: .ref (q 8) :: rest)) := r_ald E G 8 rfl hin hdg kk
theorem tM_8 (E : EW p m c cc nL s args own Z) (G : GW Z (MW Z q S Y) A H0 H locs) {i x : Int32} (hin : vp_in i 24) (hdg : decode cc pc = .ok (.iastore, 1)) (kk : ∀ (H1 : Heap) (locs1 : List Loc), GW Z (MW Z q (u_ss S (au (s_ss S) i x)) Y) A H0 H1 locs1 → W p l e R s m args below meth c H1 locs1 cells slots Q (F0 m (pc + 1) ls rest)) : W p l e R s m args below meth c H locs cells slots Q (F0 m pc ls (.int x :: .int i :: .ref (q 8) :: rest)) := r_ast E G 8 rfl hin rfl hdg kk
theorem aM_9 (E : EW p m c cc nL s args own Z) (G : GW Z (MW Z q S Y) A H0 H locs) {i : Int32} (hin : vp_in i 24) (hdg : decode cc pc = .ok (.iaload, 1)) (kk : W p l e R s m args below meth c H locs cells slots Q (F0 m (pc + 1) ls (.int (ar (s_sh S) i) :: rest))) : W p l e R s m args below meth c H locs cells slots Q (F0 m pc ls (.int i :: .ref (q 9) :: rest)) := r_ald E G 9 rfl hin hdg kk
theorem tM_9 (E : EW p m c cc nL s args own Z) (G : GW Z (MW Z q S Y) A H0 H locs) {i x : Int32} (hin : vp_in i 24) (hdg : decode cc pc = .ok (.iastore, 1)) (kk : ∀ (H1 : Heap) (locs1 : List Loc), GW Z (MW Z q (u_sh S (au (s_sh S) i x)) Y) A H0 H1 locs1 → W p l e R s m args below meth c H1 locs1 cells slots Q (F0 m (pc + 1) ls rest)) : W p l e R s m args below meth c H locs cells slots Q (F0 m pc ls (.int x :: .int i :: .ref (q 9) :: rest)) := r_ast E G 9 rfl hin rfl hdg kk
theorem aM_10 (E : EW p m c cc nL s args own Z) (G : GW Z (MW Z q S Y) A H0 H locs) {i : Int32} (hin : vp_in i 24) (hdg : decode cc pc = .ok (.iaload, 1)) (kk : W p l e R s m args below meth c H locs cells slots Q (F0 m (pc + 1) ls (.int (ar (s_sm S) i) :: rest))) : W p l e R s m args below meth c H locs cells slots Q (F0 m pc ls (.int i :: .ref (q 10) :: rest)) := r_ald E G 10 rfl hin hdg kk
theorem tM_10 (E : EW p m c cc nL s args own Z) (G : GW Z (MW Z q S Y) A H0 H locs) {i x : Int32} (hin : vp_in i 24) (hdg : decode cc pc = .ok (.iastore, 1)) (kk : ∀ (H1 : Heap) (locs1 : List Loc), GW Z (MW Z q (u_sm S (au (s_sm S) i x)) Y) A H0 H1 locs1 → W p l e R s m args below meth c H1 locs1 cells slots Q (F0 m (pc + 1) ls rest)) : W p l e R s m args below meth c H locs cells slots Q (F0 m pc ls (.int x :: .int i :: .ref (q 10) :: rest)) := r_ast E G 10 rfl hin rfl hdg kk
theorem aM_11 (E : EW p m c cc nL s args own Z) (G : GW Z (MW Z q S Y) A H0 H locs) {i : Int32} (hin : vp_in i 12) (hdg : decode cc pc = .ok (.iaload, 1)) (kk : W p l e R s m args below meth c H locs cells slots Q (F0 m (pc + 1) ls (.int (ar (s_le S) i) :: rest))) : W p l e R s m args below meth c H locs cells slots Q (F0 m pc ls (.int i :: .ref (q 11) :: rest)) := r_ald E G 11 rfl hin hdg kk
theorem tM_11 (E : EW p m c cc nL s args own Z) (G : GW Z (MW Z q S Y) A H0 H locs) {i x : Int32} (hin : vp_in i 12) (hdg : decode cc pc = .ok (.iastore, 1)) (kk : ∀ (H1 : Heap) (locs1 : List Loc), GW Z (MW Z q (u_le S (au (s_le S) i x)) Y) A H0 H1 locs1 → W p l e R s m args below meth c H1 locs1 cells slots Q (F0 m (pc + 1) ls rest)) : W p l e R s m args below meth c H locs cells slots Q (F0 m pc ls (.int x :: .int i :: .ref (q 11) :: rest)) := r_ast E G 11 rfl hin rfl hdg kk
theorem aM_12 (E : EW p m c cc nL s args own Z) (G : GW Z (MW Z q S Y) A H0 H locs) {i : Int32} (hin : vp_in i 12) (hdg : decode cc pc = .ok (.iaload, 1)) (kk : W p l e R s m args below meth c H locs cells slots Q (F0 m (pc + 1) ls (.int (ar (s_bd S) i) :: rest))) : W p l e R s m args below meth c H locs cells slots Q (F0 m pc ls (.int i :: .ref (q 12) :: rest)) := r_ald E G 12 rfl hin hdg kk
theorem tM_12 (E : EW p m c cc nL s args own Z) (G : GW Z (MW Z q S Y) A H0 H locs) {i x : Int32} (hin : vp_in i 12) (hdg : decode cc pc = .ok (.iastore, 1)) (kk : ∀ (H1 : Heap) (locs1 : List Loc), GW Z (MW Z q (u_bd S (au (s_bd S) i x)) Y) A H0 H1 locs1 → W p l e R s m args below meth c H1 locs1 cells slots Q (F0 m (pc + 1) ls rest)) : W p l e R s m args below meth c H locs cells slots Q (F0 m pc ls (.int x :: .int i :: .ref (q 12) :: rest)) := r_ast E G 12 rfl hin rfl hdg kk
theorem aM_13 (E : EW p m c cc nL s args own Z) (G : GW Z (MW Z q S Y) A H0 H locs) {i : Int32} (hin : vp_in i 12) (hdg : decode cc pc = .ok (.iaload, 1)) (kk : W p l e R s m args below meth c H locs cells slots Q (F0 m (pc + 1) ls (.int (ar (s_du S) i) :: rest))) : W p l e R s m args below meth c H locs cells slots Q (F0 m pc ls (.int i :: .ref (q 13) :: rest)) := r_ald E G 13 rfl hin hdg kk
theorem tM_13 (E : EW p m c cc nL s args own Z) (G : GW Z (MW Z q S Y) A H0 H locs) {i x : Int32} (hin : vp_in i 12) (hdg : decode cc pc = .ok (.iastore, 1)) (kk : ∀ (H1 : Heap) (locs1 : List Loc), GW Z (MW Z q (u_du S (au (s_du S) i x)) Y) A H0 H1 locs1 → W p l e R s m args below meth c H1 locs1 cells slots Q (F0 m (pc + 1) ls rest)) : W p l e R s m args below meth c H locs cells slots Q (F0 m pc ls (.int x :: .int i :: .ref (q 13) :: rest)) := r_ast E G 13 rfl hin rfl hdg kk
theorem aM_14 (E : EW p m c cc nL s args own Z) (G : GW Z (MW Z q S Y) A H0 H locs) {i : Int32} (hin : vp_in i 12) (hdg : decode cc pc = .ok (.iaload, 1)) (kk : W p l e R s m args below meth c H locs cells slots Q (F0 m (pc + 1) ls (.int (ar (s_wt S) i) :: rest))) : W p l e R s m args below meth c H locs cells slots Q (F0 m pc ls (.int i :: .ref (q 14) :: rest)) := r_ald E G 14 rfl hin hdg kk
theorem tM_14 (E : EW p m c cc nL s args own Z) (G : GW Z (MW Z q S Y) A H0 H locs) {i x : Int32} (hin : vp_in i 12) (hdg : decode cc pc = .ok (.iastore, 1)) (kk : ∀ (H1 : Heap) (locs1 : List Loc), GW Z (MW Z q (u_wt S (au (s_wt S) i x)) Y) A H0 H1 locs1 → W p l e R s m args below meth c H1 locs1 cells slots Q (F0 m (pc + 1) ls rest)) : W p l e R s m args below meth c H locs cells slots Q (F0 m pc ls (.int x :: .int i :: .ref (q 14) :: rest)) := r_ast E G 14 rfl hin rfl hdg kk
theorem aM_15 (E : EW p m c cc nL s args own Z) (G : GW Z (MW Z q S Y) A H0 H locs) {i : Int32} (hin : vp_in i 6) (hdg : decode cc pc = .ok (.iaload, 1)) (kk : W p l e R s m args below meth c H locs cells slots Q (F0 m (pc + 1) ls (.int (ar (s_co S) i) :: rest))) : W p l e R s m args below meth c H locs cells slots Q (F0 m pc ls (.int i :: .ref (q 15) :: rest)) := r_ald E G 15 rfl hin hdg kk
theorem tM_15 (E : EW p m c cc nL s args own Z) (G : GW Z (MW Z q S Y) A H0 H locs) {i x : Int32} (hin : vp_in i 6) (hdg : decode cc pc = .ok (.iastore, 1)) (kk : ∀ (H1 : Heap) (locs1 : List Loc), GW Z (MW Z q (u_co S (au (s_co S) i x)) Y) A H0 H1 locs1 → W p l e R s m args below meth c H1 locs1 cells slots Q (F0 m (pc + 1) ls rest)) : W p l e R s m args below meth c H locs cells slots Q (F0 m pc ls (.int x :: .int i :: .ref (q 15) :: rest)) := r_ast E G 15 rfl hin rfl hdg kk
theorem aM_16 (E : EW p m c cc nL s args own Z) (G : GW Z (MW Z q S Y) A H0 H locs) {i : Int32} (hin : vp_in i 12) (hdg : decode cc pc = .ok (.iaload, 1)) (kk : W p l e R s m args below meth c H locs cells slots Q (F0 m (pc + 1) ls (.int (ar (y_rs Y) i) :: rest))) : W p l e R s m args below meth c H locs cells slots Q (F0 m pc ls (.int i :: .ref (q 16) :: rest)) := r_ald E G 16 rfl hin hdg kk
theorem tM_16 (E : EW p m c cc nL s args own Z) (G : GW Z (MW Z q S Y) A H0 H locs) {i x : Int32} (hin : vp_in i 12) (hdg : decode cc pc = .ok (.iastore, 1)) (kk : ∀ (H1 : Heap) (locs1 : List Loc), GW Z (MW Z q S (z_rs Y (au (y_rs Y) i x))) A H0 H1 locs1 → W p l e R s m args below meth c H1 locs1 cells slots Q (F0 m (pc + 1) ls rest)) : W p l e R s m args below meth c H locs cells slots Q (F0 m pc ls (.int x :: .int i :: .ref (q 16) :: rest)) := r_ast E G 16 rfl hin rfl hdg kk
theorem aM_17 (E : EW p m c cc nL s args own Z) (G : GW Z (MW Z q S Y) A H0 H locs) {i : Int32} (hin : vp_in i 12) (hdg : decode cc pc = .ok (.iaload, 1)) (kk : W p l e R s m args below meth c H locs cells slots Q (F0 m (pc + 1) ls (.int (ar (y_rh Y) i) :: rest))) : W p l e R s m args below meth c H locs cells slots Q (F0 m pc ls (.int i :: .ref (q 17) :: rest)) := r_ald E G 17 rfl hin hdg kk
theorem tM_17 (E : EW p m c cc nL s args own Z) (G : GW Z (MW Z q S Y) A H0 H locs) {i x : Int32} (hin : vp_in i 12) (hdg : decode cc pc = .ok (.iastore, 1)) (kk : ∀ (H1 : Heap) (locs1 : List Loc), GW Z (MW Z q S (z_rh Y (au (y_rh Y) i x))) A H0 H1 locs1 → W p l e R s m args below meth c H1 locs1 cells slots Q (F0 m (pc + 1) ls rest)) : W p l e R s m args below meth c H locs cells slots Q (F0 m pc ls (.int x :: .int i :: .ref (q 17) :: rest)) := r_ast E G 17 rfl hin rfl hdg kk
theorem aM_18 (E : EW p m c cc nL s args own Z) (G : GW Z (MW Z q S Y) A H0 H locs) {i : Int32} (hin : vp_in i 12) (hdg : decode cc pc = .ok (.iaload, 1)) (kk : W p l e R s m args below meth c H locs cells slots Q (F0 m (pc + 1) ls (.int (ar (y_so Y) i) :: rest))) : W p l e R s m args below meth c H locs cells slots Q (F0 m pc ls (.int i :: .ref (q 18) :: rest)) := r_ald E G 18 rfl hin hdg kk
theorem tM_18 (E : EW p m c cc nL s args own Z) (G : GW Z (MW Z q S Y) A H0 H locs) {i x : Int32} (hin : vp_in i 12) (hdg : decode cc pc = .ok (.iastore, 1)) (kk : ∀ (H1 : Heap) (locs1 : List Loc), GW Z (MW Z q S (z_so Y (au (y_so Y) i x))) A H0 H1 locs1 → W p l e R s m args below meth c H1 locs1 cells slots Q (F0 m (pc + 1) ls rest)) : W p l e R s m args below meth c H locs cells slots Q (F0 m pc ls (.int x :: .int i :: .ref (q 18) :: rest)) := r_ast E G 18 rfl hin rfl hdg kk
theorem aM_19 (E : EW p m c cc nL s args own Z) (G : GW Z (MW Z q S Y) A H0 H locs) {i : Int32} (hin : vp_in i 12) (hdg : decode cc pc = .ok (.iaload, 1)) (kk : W p l e R s m args below meth c H locs cells slots Q (F0 m (pc + 1) ls (.int (ar (y_ke Y) i) :: rest))) : W p l e R s m args below meth c H locs cells slots Q (F0 m pc ls (.int i :: .ref (q 19) :: rest)) := r_ald E G 19 rfl hin hdg kk
theorem tM_19 (E : EW p m c cc nL s args own Z) (G : GW Z (MW Z q S Y) A H0 H locs) {i x : Int32} (hin : vp_in i 12) (hdg : decode cc pc = .ok (.iastore, 1)) (kk : ∀ (H1 : Heap) (locs1 : List Loc), GW Z (MW Z q S (z_ke Y (au (y_ke Y) i x))) A H0 H1 locs1 → W p l e R s m args below meth c H1 locs1 cells slots Q (F0 m (pc + 1) ls rest)) : W p l e R s m args below meth c H locs cells slots Q (F0 m pc ls (.int x :: .int i :: .ref (q 19) :: rest)) := r_ast E G 19 rfl hin rfl hdg kk
theorem aM_20 (E : EW p m c cc nL s args own Z) (G : GW Z (MW Z q S Y) A H0 H locs) {i : Int32} (hin : vp_in i 12) (hdg : decode cc pc = .ok (.iaload, 1)) (kk : W p l e R s m args below meth c H locs cells slots Q (F0 m (pc + 1) ls (.int (ar (y_tr Y) i) :: rest))) : W p l e R s m args below meth c H locs cells slots Q (F0 m pc ls (.int i :: .ref (q 20) :: rest)) := r_ald E G 20 rfl hin hdg kk
theorem tM_20 (E : EW p m c cc nL s args own Z) (G : GW Z (MW Z q S Y) A H0 H locs) {i x : Int32} (hin : vp_in i 12) (hdg : decode cc pc = .ok (.iastore, 1)) (kk : ∀ (H1 : Heap) (locs1 : List Loc), GW Z (MW Z q S (z_tr Y (au (y_tr Y) i x))) A H0 H1 locs1 → W p l e R s m args below meth c H1 locs1 cells slots Q (F0 m (pc + 1) ls rest)) : W p l e R s m args below meth c H locs cells slots Q (F0 m pc ls (.int x :: .int i :: .ref (q 20) :: rest)) := r_ast E G 20 rfl hin rfl hdg kk
theorem aM_21 (E : EW p m c cc nL s args own Z) (G : GW Z (MW Z q S Y) A H0 H locs) {i : Int32} (hin : vp_in i 6) (hdg : decode cc pc = .ok (.iaload, 1)) (kk : W p l e R s m args below meth c H locs cells slots Q (F0 m (pc + 1) ls (.int (ar (y_bs Y) i) :: rest))) : W p l e R s m args below meth c H locs cells slots Q (F0 m pc ls (.int i :: .ref (q 21) :: rest)) := r_ald E G 21 rfl hin hdg kk
theorem tM_21 (E : EW p m c cc nL s args own Z) (G : GW Z (MW Z q S Y) A H0 H locs) {i x : Int32} (hin : vp_in i 6) (hdg : decode cc pc = .ok (.iastore, 1)) (kk : ∀ (H1 : Heap) (locs1 : List Loc), GW Z (MW Z q S (z_bs Y (au (y_bs Y) i x))) A H0 H1 locs1 → W p l e R s m args below meth c H1 locs1 cells slots Q (F0 m (pc + 1) ls rest)) : W p l e R s m args below meth c H locs cells slots Q (F0 m pc ls (.int x :: .int i :: .ref (q 21) :: rest)) := r_ast E G 21 rfl hin rfl hdg kk
theorem aM_22 (E : EW p m c cc nL s args own Z) (G : GW Z (MW Z q S Y) A H0 H locs) {i : Int32} (hin : vp_in i 6) (hdg : decode cc pc = .ok (.iaload, 1)) (kk : W p l e R s m args below meth c H locs cells slots Q (F0 m (pc + 1) ls (.int (ar (y_bh Y) i) :: rest))) : W p l e R s m args below meth c H locs cells slots Q (F0 m pc ls (.int i :: .ref (q 22) :: rest)) := r_ald E G 22 rfl hin hdg kk
theorem tM_22 (E : EW p m c cc nL s args own Z) (G : GW Z (MW Z q S Y) A H0 H locs) {i x : Int32} (hin : vp_in i 6) (hdg : decode cc pc = .ok (.iastore, 1)) (kk : ∀ (H1 : Heap) (locs1 : List Loc), GW Z (MW Z q S (z_bh Y (au (y_bh Y) i x))) A H0 H1 locs1 → W p l e R s m args below meth c H1 locs1 cells slots Q (F0 m (pc + 1) ls rest)) : W p l e R s m args below meth c H locs cells slots Q (F0 m pc ls (.int x :: .int i :: .ref (q 22) :: rest)) := r_ast E G 22 rfl hin rfl hdg kk
end RM
theorem rng_set {α : Type} (n i : Nat) (f g : Nat → α) (hi : i < n) (h : ∀ j, j ≠ i → f j = g j) : ((List.range n).map f).set i (g i) = (List.range n).map g := by
  apply List.ext_getElem?
  intro j
  by_cases hj : j = i
  · subst hj
    rw [List.getElem?_set_self (by rw [List.length_map, List.length_range]; exact hi)]
    rw [List.getElem?_map, List.getElem?_range hi]
    rfl
  · rw [List.getElem?_set_ne (Ne.symm hj), List.getElem?_map, List.getElem?_map]
    cases hk : (List.range n)[j]? with
    | none => rfl
    | some k =>
      have hl : j < n := by
        have := (List.getElem?_eq_some_iff.mp hk).1
        rw [List.length_range] at this
        exact this
      rw [List.getElem?_range hl] at hk
      cases hk
      show some (f j) = some (g j)
      rw [h j hj]
theorem CW_van {Z : ZT} {q : Nat → Nat} {S : St} {X : XC} {i : Nat} (h : i < vn S) : (CW Z q S X)[24 + i]? = some (q (24 + i), .inr (kc (s_ki S i), [.int (s_so S i), .int (s_li S i)])) := by
  unfold CW
  rw [List.getElem?_append_right (Nat.le_add_right 24 i)]
  show (vanL q S)[24 + i - 24]? = _
  rw [Nat.add_sub_cancel_left]
  unfold vanL
  rw [List.getElem?_map, List.getElem?_range h]
  rfl
theorem CW_setV {Z : ZT} {q : Nat → Nat} {S S' : St} {X : XC} {i : Nat} {e : Nat × va_E} (h : i < vn S) (hF : CF Z q S' X = CF Z q S X) (hn : vn S' = vn S) (he : e = (q (24 + i), .inr (kc (s_ki S' i), [.int (s_so S' i), .int (s_li S' i)]))) (ho : ∀ j, j ≠ i → s_ki S j = s_ki S' j ∧ s_so S j = s_so S' j ∧ s_li S j = s_li S' j) : (CW Z q S X).set (24 + i) e = CW Z q S' X := by
  unfold CW
  rw [hF, List.set_append_right _ _ (Nat.le_add_right 24 i)]
  show CF Z q S X ++ (vanL q S).set (24 + i - 24) e = _
  rw [Nat.add_sub_cancel_left]
  congr 1
  unfold vanL
  rw [hn, he]
  exact rng_set (α := Nat × va_E) (vn S) i _ (fun i => (q (24 + i), Sum.inr (kc (s_ki S' i), [Value.int (s_so S' i), Value.int (s_li S' i)]))) h (fun j hj => by obtain ⟨h1, h2, h3⟩ := ho j hj; rw [h1, h2, h3])
section RV
variable {p : Program} {l : Launch} {e : Env} {R : Room} {s : State} {m : MethodId} {args : Array Value} {below : List Frame} {meth : Method} {c : Code} {H H0 : Heap} {locs : List Loc} {cells slots : Nat} {Q : State → Prop} {cc : ByteArray} {nL pc : Nat} {own : String} {Z : ZT} {A : Nat → Prop} {ls : Array Slot} {rest : List Value} {q : Nat → Nat} {S : St} {X : XC}
theorem gV_0 (E : EW p m c cc nL s args own Z) (G : GW Z (CW Z q S X) A H0 H locs) {i : Nat} (hi : i < vn S) {idx : Nat} (hl : Cond.fieldLink own idx "ConeRounds$Van" "stock" "I" ∈ wU) (hdg : decode cc pc = .ok (.getfield idx, 3)) (kk : W p l e R s m args below meth c H locs cells slots Q (F0 m (pc + 3) ls (.int (s_so S i) :: rest))) : W p l e R s m args below meth c H locs cells slots Q (F0 m pc ls (.ref (q (24 + i)) :: rest)) := by
  have hj := CW_van (Z := Z) (q := q) (S := S) (X := X) hi
  rcases kc_c (s_ki S i) with ⟨-, h⟩ | ⟨-, h⟩ | ⟨-, h⟩ <;> rw [h] at hj
  · exact r_get E G (24 + i) hj rfl inU0 0 (by decide) hl rfl rfl hdg kk
  · exact r_get E G (24 + i) hj rfl inU2 0 (by decide) hl rfl rfl hdg kk
  · exact r_get E G (24 + i) hj rfl inU7 0 (by decide) hl rfl rfl hdg kk
theorem gV_1 (E : EW p m c cc nL s args own Z) (G : GW Z (CW Z q S X) A H0 H locs) {i : Nat} (hi : i < vn S) {idx : Nat} (hl : Cond.fieldLink own idx "ConeRounds$Van" "licence" "I" ∈ wU) (hdg : decode cc pc = .ok (.getfield idx, 3)) (kk : W p l e R s m args below meth c H locs cells slots Q (F0 m (pc + 3) ls (.int (s_li S i) :: rest))) : W p l e R s m args below meth c H locs cells slots Q (F0 m pc ls (.ref (q (24 + i)) :: rest)) := by
  have hj := CW_van (Z := Z) (q := q) (S := S) (X := X) hi
  rcases kc_c (s_ki S i) with ⟨-, h⟩ | ⟨-, h⟩ | ⟨-, h⟩ <;> rw [h] at hj
  · exact r_get E G (24 + i) hj rfl inU0 1 (by decide) hl rfl rfl hdg kk
  · exact r_get E G (24 + i) hj rfl inU2 1 (by decide) hl rfl rfl hdg kk
  · exact r_get E G (24 + i) hj rfl inU7 1 (by decide) hl rfl rfl hdg kk
theorem pV_0 (E : EW p m c cc nL s args own Z) (G : GW Z (CW Z q S X) A H0 H locs) {i : Nat} (hi : i < vn S) {idx : Nat} (hl : Cond.fieldLink own idx "ConeRounds$Van" "stock" "I" ∈ wU) {v : Int32} (hdg : decode cc pc = .ok (.putfield idx, 3)) (kk : ∀ (H1 : Heap) (locs1 : List Loc), GW Z (CW Z q (u_so S (upd (s_so S) i v)) X) A H0 H1 locs1 → W p l e R s m args below meth c H1 locs1 cells slots Q (F0 m (pc + 3) ls rest)) : W p l e R s m args below meth c H locs cells slots Q (F0 m pc ls (.int v :: .ref (q (24 + i)) :: rest)) := by
  have hj := CW_van (Z := Z) (q := q) (S := S) (X := X) hi
  have hw : (CW Z q S X).set (24 + i) (q (24 + i), .inr (kc (s_ki S i), [.int v, .int (s_li S i)])) = CW Z q (u_so S (upd (s_so S) i v)) X := CW_setV hi rfl rfl (by show _ = (q (24 + i), Sum.inr (kc (s_ki S i), [Value.int (upd (s_so S) i v i), Value.int (s_li S i)])); rw [pk_us]) (fun j hj => ⟨rfl, (pk_un (f := s_so S) (x := v) hj).symm, rfl⟩)
  rcases kc_c (s_ki S i) with ⟨-, h⟩ | ⟨-, h⟩ | ⟨-, h⟩ <;> rw [h] at hj hw
  · exact r_put E G (24 + i) hj rfl inU0 tyX0_ok nmX0 0 (by decide) hl rfl rfl rfl (Nat.le_of_ble_eq_true rfl) hw hdg kk
  · exact r_put E G (24 + i) hj rfl inU2 tyX2_ok nmX2 0 (by decide) hl rfl rfl rfl (Nat.le_of_ble_eq_true rfl) hw hdg kk
  · exact r_put E G (24 + i) hj rfl inU7 tyX7_ok nmX7 0 (by decide) hl rfl rfl rfl (Nat.le_of_ble_eq_true rfl) hw hdg kk
theorem pV_1 (E : EW p m c cc nL s args own Z) (G : GW Z (CW Z q S X) A H0 H locs) {i : Nat} (hi : i < vn S) {idx : Nat} (hl : Cond.fieldLink own idx "ConeRounds$Van" "licence" "I" ∈ wU) {v : Int32} (hdg : decode cc pc = .ok (.putfield idx, 3)) (kk : ∀ (H1 : Heap) (locs1 : List Loc), GW Z (CW Z q (u_li S (upd (s_li S) i v)) X) A H0 H1 locs1 → W p l e R s m args below meth c H1 locs1 cells slots Q (F0 m (pc + 3) ls rest)) : W p l e R s m args below meth c H locs cells slots Q (F0 m pc ls (.int v :: .ref (q (24 + i)) :: rest)) := by
  have hj := CW_van (Z := Z) (q := q) (S := S) (X := X) hi
  have hw : (CW Z q S X).set (24 + i) (q (24 + i), .inr (kc (s_ki S i), [.int (s_so S i), .int v])) = CW Z q (u_li S (upd (s_li S) i v)) X := CW_setV hi rfl rfl (by show _ = (q (24 + i), Sum.inr (kc (s_ki S i), [Value.int (s_so S i), Value.int (upd (s_li S) i v i)])); rw [pk_us]) (fun j hj => ⟨rfl, rfl, (pk_un (f := s_li S) (x := v) hj).symm⟩)
  rcases kc_c (s_ki S i) with ⟨-, h⟩ | ⟨-, h⟩ | ⟨-, h⟩ <;> rw [h] at hj hw
  · exact r_put E G (24 + i) hj rfl inU0 tyX0_ok nmX0 1 (by decide) hl rfl rfl rfl (Nat.le_of_ble_eq_true rfl) hw hdg kk
  · exact r_put E G (24 + i) hj rfl inU2 tyX2_ok nmX2 1 (by decide) hl rfl rfl rfl (Nat.le_of_ble_eq_true rfl) hw hdg kk
  · exact r_put E G (24 + i) hj rfl inU7 tyX7_ok nmX7 1 (by decide) hl rfl rfl rfl (Nat.le_of_ble_eq_true rfl) hw hdg kk
theorem aC_4 (E : EW p m c cc nL s args own Z) (G : GW Z (CW Z q S X) A H0 H locs) {i : Int32} (hin : vp_in i 4) (hdg : decode cc pc = .ok (.aaload, 1)) (kk : W p l e R s m args below meth c H locs cells slots Q (F0 m (pc + 1) ls (va_rf (vf q S i.toNatClampNeg) :: rest))) : W p l e R s m args below meth c H locs cells slots Q (F0 m pc ls (.int i :: .ref (q 4) :: rest)) := va_aldq E.1.1 E.1.2.1 E.2.1 G.1 4 2 rfl rfl hin hdg kk
end RV
end
section
-- pure: findings, ranges
def fnd (S : St) (a : Int32) : Int32 × St := (a, u_co S (au (s_co S) (-1000000 - a) (ar (s_co S) (-1000000 - a) + 1)))
def inr (v a b : Int32) : Bool := decide (a ≤ v) && decide (v ≤ b)
def isHo (h : Int32) : Bool := inr h 0 11
def isSt (S : St) (a : Int32) : Bool := decide (0 ≤ a) && decide (a < s_st S)
def isVa (S : St) (v : Int32) : Bool := decide (0 ≤ v) && decide (v < s_va S)
def isSd (S : St) (n : Int32) : Bool := decide (0 ≤ n) && decide (n < s_sd S)
def isBi (S : St) (n : Int32) : Bool := decide (0 ≤ n) && decide (n < s_bi S)
def ho (a : Int32) : Int32 := a - a / 100 * 100
def isAt (S : St) (a : Int32) : Bool := decide (0 ≤ a) && (isSt S (a / 100) && isHo (ho a))
def isKi (k : Int32) : Bool := inr k 0 2
def Inv (S : St) : Prop :=
  ((0 ≤ s_st S ∧ s_st S ≤ 6) ∧ (0 ≤ s_va S ∧ s_va S ≤ 4) ∧ (0 ≤ s_sd S ∧ s_sd S ≤ 24) ∧ (0 ≤ s_bi S ∧ s_bi S ≤ 12) ∧ (0 ≤ s_wa S ∧ s_wa S ≤ 12)) ∧
  (∀ i, s_sc S i = 0 ∨ s_sc S i = 1) ∧ (∀ i, 0 ≤ s_wy S i ∧ s_wy S i ≤ 3) ∧ (∀ i, s_ki S i = 0 ∨ s_ki S i = 1 ∨ s_ki S i = 2) ∧
  (∀ i, i < (s_sd S).toNatClampNeg → isVa S (s_sv S i) = true ∧ isSt S (s_ss S i) = true ∧ isHo (s_sh S i) = true) ∧
  (∀ i j, i < j → j < (s_sd S).toNatClampNeg → s_sv S i = s_sv S j → s_sh S i < s_sh S j) ∧
  (∀ i, (0 ≤ s_bd S i ∧ s_bd S i ≤ 1000) ∧ (0 ≤ s_du S i ∧ s_du S i ≤ 1060))
theorem Inv.st {S : St} (h : Inv S) : 0 ≤ s_st S ∧ s_st S ≤ 6 := h.1.1
theorem Inv.va {S : St} (h : Inv S) : 0 ≤ s_va S ∧ s_va S ≤ 4 := h.1.2.1
theorem Inv.sd {S : St} (h : Inv S) : 0 ≤ s_sd S ∧ s_sd S ≤ 24 := h.1.2.2.1
theorem Inv.bi {S : St} (h : Inv S) : 0 ≤ s_bi S ∧ s_bi S ≤ 12 := h.1.2.2.2.1
theorem Inv.wa {S : St} (h : Inv S) : 0 ≤ s_wa S ∧ s_wa S ≤ 12 := h.1.2.2.2.2
-- numbers
theorem i_le (x y : Int32) : x ≤ y ↔ x.toInt ≤ y.toInt := Int32.le_iff_toInt_le
theorem i_lt (x y : Int32) : x < y ↔ x.toInt < y.toInt := Int32.lt_iff_toInt_lt
theorem i_rng (x : Int32) : -2147483648 ≤ x.toInt ∧ x.toInt < 2147483648 := ⟨by have := Int32.le_toInt x; exact this, by have := Int32.toInt_lt x; exact this⟩
theorem i_bm {z : Int} (h1 : -2147483648 ≤ z) (h2 : z < 2147483648) : z.bmod (2 ^ 32) = z := by
  rw [Int.bmod_def]
  split <;> omega
theorem i_add {x y : Int32} (h1 : -2147483648 ≤ x.toInt + y.toInt) (h2 : x.toInt + y.toInt < 2147483648) : (x + y).toInt = x.toInt + y.toInt := by
  rw [Int32.toInt_add]; exact i_bm h1 h2
theorem i_sub {x y : Int32} (h1 : -2147483648 ≤ x.toInt - y.toInt) (h2 : x.toInt - y.toInt < 2147483648) : (x - y).toInt = x.toInt - y.toInt := by
  rw [Int32.toInt_sub]; exact i_bm h1 h2
theorem i_mul {x y : Int32} (h1 : -2147483648 ≤ x.toInt * y.toInt) (h2 : x.toInt * y.toInt < 2147483648) : (x * y).toInt = x.toInt * y.toInt := by
  rw [Int32.toInt_mul]; exact i_bm h1 h2
theorem vp_of {x : Int32} {n : Nat} (h1 : 0 ≤ x.toInt) (h2 : x.toInt < n) : vp_in x n := vp_in_iff.mpr ⟨h1, h2⟩
theorem in_of {v a b : Int32} (h : inr v a b = true) : a.toInt ≤ v.toInt ∧ v.toInt ≤ b.toInt := by
  unfold inr at h
  rw [Bool.and_eq_true, decide_eq_true_eq, decide_eq_true_eq, i_le, i_le] at h
  exact h
theorem ho_of {h : Int32} (c : isHo h = true) : 0 ≤ h.toInt ∧ h.toInt ≤ 11 := in_of c
theorem st_of {S : St} (hI : Inv S) {a : Int32} (c : isSt S a = true) : 0 ≤ a.toInt ∧ a.toInt < 6 := by
  unfold isSt at c
  rw [Bool.and_eq_true, decide_eq_true_eq, decide_eq_true_eq, i_le, i_lt] at c
  have h := (i_le _ _).mp hI.st.2
  have e6 : (6 : Int32).toInt = 6 := by decide
  have e0 : (0 : Int32).toInt = 0 := by decide
  omega
theorem va_of {S : St} (hI : Inv S) {a : Int32} (c : isVa S a = true) : 0 ≤ a.toInt ∧ a.toInt < 4 := by
  unfold isVa at c
  rw [Bool.and_eq_true, decide_eq_true_eq, decide_eq_true_eq, i_le, i_lt] at c
  have h := (i_le _ _).mp hI.va.2
  have e6 : (4 : Int32).toInt = 4 := by decide
  have e0 : (0 : Int32).toInt = 0 := by decide
  omega
theorem sd_of {S : St} (hI : Inv S) {a : Int32} (c : isSd S a = true) : 0 ≤ a.toInt ∧ a.toInt < 24 := by
  unfold isSd at c
  rw [Bool.and_eq_true, decide_eq_true_eq, decide_eq_true_eq, i_le, i_lt] at c
  have h := (i_le _ _).mp hI.sd.2
  have e6 : (24 : Int32).toInt = 24 := by decide
  have e0 : (0 : Int32).toInt = 0 := by decide
  omega
theorem bi_of {S : St} (hI : Inv S) {a : Int32} (c : isBi S a = true) : 0 ≤ a.toInt ∧ a.toInt < 12 := by
  unfold isBi at c
  rw [Bool.and_eq_true, decide_eq_true_eq, decide_eq_true_eq, i_le, i_lt] at c
  have h := (i_le _ _).mp hI.bi.2
  have e6 : (12 : Int32).toInt = 12 := by decide
  have e0 : (0 : Int32).toInt = 0 := by decide
  omega
theorem lt_pred {x y : Int32} (h : 0 ≤ y) : (x ≤ y - 1) ↔ x < y := by
  rw [i_le] at h ⊢
  rw [i_lt]
  have e0 : (0 : Int32).toInt = 0 := by decide
  have e1 : (1 : Int32).toInt = 1 := by decide
  have := i_rng y
  rw [i_sub (by omega) (by omega)]
  omega
theorem inr_pred {x y : Int32} (h : 0 ≤ y) : inr x 0 (y - 1) = (decide (0 ≤ x) && decide (x < y)) := by
  unfold inr
  rw [decide_eq_decide.mpr (lt_pred h)]
theorem va_lt {S : St} {v : Int32} (c : isVa S v = true) : v.toNatClampNeg < vn S := by
  unfold isVa at c
  rw [Bool.and_eq_true, decide_eq_true_eq, decide_eq_true_eq] at c
  obtain ⟨j, hj, e⟩ := nI_of (x := v) (Int32.not_lt.mpr c.1)
  obtain ⟨n, hn, e2⟩ := nI_of (x := s_va S) (Int32.not_lt.mpr (Int32.le_of_lt (Int32.lt_of_le_of_lt c.1 c.2)))
  unfold vn
  have c2 := c.2
  rw [e, e2] at c2
  rw [e, e2, nI_clamp hj, nI_clamp hn]
  exact (nI_ltI hj hn).mp c2
section RV2
variable {p : Program} {l : Launch} {e : Env} {R : Room} {s : State} {m : MethodId} {args : Array Value} {below : List Frame} {meth : Method} {c : Code} {H H0 : Heap} {locs : List Loc} {cells slots : Nat} {Q : State → Prop} {cc : ByteArray} {nL pc : Nat} {own : String} {Z : ZT} {A : Nat → Prop} {ls : Array Slot} {rest : List Value} {q : Nat → Nat} {S : St} {X : XC}
theorem hV_0 (E : EW p m c cc nL s args own Z) (G : GW Z (CW Z q S X) A H0 H locs) {v : Int32} (hv : isVa S v = true) {idx : Nat} (hl : Cond.fieldLink own idx "ConeRounds$Van" "stock" "I" ∈ wU) (hdg : decode cc pc = .ok (.getfield idx, 3)) (kk : W p l e R s m args below meth c H locs cells slots Q (F0 m (pc + 3) ls (.int (ar (s_so S) v) :: rest))) : W p l e R s m args below meth c H locs cells slots Q (F0 m pc ls (.ref (q (24 + v.toNatClampNeg)) :: rest)) := gV_0 E G (va_lt hv) hl hdg kk
theorem hV_1 (E : EW p m c cc nL s args own Z) (G : GW Z (CW Z q S X) A H0 H locs) {v : Int32} (hv : isVa S v = true) {idx : Nat} (hl : Cond.fieldLink own idx "ConeRounds$Van" "licence" "I" ∈ wU) (hdg : decode cc pc = .ok (.getfield idx, 3)) (kk : W p l e R s m args below meth c H locs cells slots Q (F0 m (pc + 3) ls (.int (ar (s_li S) v) :: rest))) : W p l e R s m args below meth c H locs cells slots Q (F0 m pc ls (.ref (q (24 + v.toNatClampNeg)) :: rest)) := gV_1 E G (va_lt hv) hl hdg kk
theorem iV_0 (E : EW p m c cc nL s args own Z) (G : GW Z (CW Z q S X) A H0 H locs) {v : Int32} (hv : isVa S v = true) {idx : Nat} (hl : Cond.fieldLink own idx "ConeRounds$Van" "stock" "I" ∈ wU) {x : Int32} (hdg : decode cc pc = .ok (.putfield idx, 3)) (kk : ∀ (H1 : Heap) (locs1 : List Loc), GW Z (CW Z q (u_so S (au (s_so S) v x)) X) A H0 H1 locs1 → W p l e R s m args below meth c H1 locs1 cells slots Q (F0 m (pc + 3) ls rest)) : W p l e R s m args below meth c H locs cells slots Q (F0 m pc ls (.int x :: .ref (q (24 + v.toNatClampNeg)) :: rest)) := pV_0 E G (va_lt hv) hl hdg kk
theorem iV_1 (E : EW p m c cc nL s args own Z) (G : GW Z (CW Z q S X) A H0 H locs) {v : Int32} (hv : isVa S v = true) {idx : Nat} (hl : Cond.fieldLink own idx "ConeRounds$Van" "licence" "I" ∈ wU) {x : Int32} (hdg : decode cc pc = .ok (.putfield idx, 3)) (kk : ∀ (H1 : Heap) (locs1 : List Loc), GW Z (CW Z q (u_li S (au (s_li S) v x)) X) A H0 H1 locs1 → W p l e R s m args below meth c H1 locs1 cells slots Q (F0 m (pc + 3) ls rest)) : W p l e R s m args below meth c H locs cells slots Q (F0 m pc ls (.int x :: .ref (q (24 + v.toNatClampNeg)) :: rest)) := pV_1 E G (va_lt hv) hl hdg kk
theorem vf_t {v : Int32} (hv : isVa S v = true) : va_rf (vf q S v.toNatClampNeg) = .ref (q (24 + v.toNatClampNeg)) := by
  unfold vf
  rw [if_pos (va_lt hv)]
  rfl
end RV2
end
section
theorem e_lit : (0 : Int32).toInt = 0 ∧ (1 : Int32).toInt = 1 ∧ (2 : Int32).toInt = 2 ∧ (3 : Int32).toInt = 3 ∧ (4 : Int32).toInt = 4 ∧ (5 : Int32).toInt = 5 ∧ (6 : Int32).toInt = 6 ∧ (11 : Int32).toInt = 11 ∧ (12 : Int32).toInt = 12 ∧ (24 : Int32).toInt = 24 := by decide
theorem ix_st {S : St} (hI : Inv S) {a : Int32} (h : isSt S a = true) : vp_in a 6 := by have := st_of hI h; exact vp_of (by omega) (by omega)
theorem ix_va {S : St} (hI : Inv S) {a : Int32} (h : isVa S a = true) : vp_in a 4 := by have := va_of hI h; exact vp_of (by omega) (by omega)
theorem ix_sd {S : St} (hI : Inv S) {a : Int32} (h : isSd S a = true) : vp_in a 24 := by have := sd_of hI h; exact vp_of (by omega) (by omega)
theorem ix_bi {S : St} (hI : Inv S) {a : Int32} (h : isBi S a = true) : vp_in a 12 := by have := bi_of hI h; exact vp_of (by omega) (by omega)
theorem m6 {a b : Int32} (ha : 0 ≤ a.toInt ∧ a.toInt < 6) (hb : 0 ≤ b.toInt ∧ b.toInt < 6) : (a * 6 + b).toInt = a.toInt * 6 + b.toInt := by
  have e6 : (6 : Int32).toInt = 6 := by decide
  have h1 : (a * 6).toInt = a.toInt * 6 := by rw [i_mul (by rw [e6]; omega) (by rw [e6]; omega), e6]
  rw [i_add (by rw [h1]; omega) (by rw [h1]; omega), h1]
theorem m12 {a b : Int32} (ha : 0 ≤ a.toInt ∧ a.toInt < 6) (hb : 0 ≤ b.toInt ∧ b.toInt ≤ 11) : (a * 12 + b).toInt = a.toInt * 12 + b.toInt := by
  have e6 : (12 : Int32).toInt = 12 := by decide
  have h1 : (a * 12).toInt = a.toInt * 12 := by rw [i_mul (by rw [e6]; omega) (by rw [e6]; omega), e6]
  rw [i_add (by rw [h1]; omega) (by rw [h1]; omega), h1]
theorem ix_wy {S : St} (hI : Inv S) {a b : Int32} (ha : isSt S a = true) (hb : isSt S b = true) : vp_in (a * 6 + b) 36 := by
  have h1 := st_of hI ha
  have h2 := st_of hI hb
  exact vp_of (by rw [m6 h1 h2]; omega) (by rw [m6 h1 h2]; omega)
theorem ix_wi {S : St} (hI : Inv S) {a b : Int32} (ha : isSt S a = true) (hb : isHo b = true) : vp_in (a * 12 + b) 72 := by
  have h1 := st_of hI ha
  have h2 := ho_of hb
  exact vp_of (by rw [m12 h1 h2]; omega) (by rw [m12 h1 h2]; omega)
theorem ix_lim {x y : Int32} {n : Nat} (h0 : 0 ≤ x) (h : x < y) (hy : y.toInt = n) : vp_in x n := by
  rw [i_le] at h0
  rw [i_lt] at h
  have e0 : (0 : Int32).toInt = 0 := by decide
  exact vp_of (by omega) (by omega)
theorem ix_fnd {a : Int32} (h : inr (-1000000 - a) 1 5 = true) : vp_in (-1000000 - a) 6 := by
  have h1 := in_of h
  have e := e_lit
  exact vp_of (by omega) (by omega)
theorem fnd_in {a : Int32} (h : inr (-1000000 - a) 1 5 = true) : ¬ (-1000000 - a) < 1 ∧ ¬ 5 < (-1000000 - a) := by
  have h1 := in_of h
  exact ⟨fun c => by rw [i_lt] at c; omega, fun c => by rw [i_lt] at c; omega⟩
theorem le11 (h : Int32) : (h ≤ 11) = (h < 12) := by
  rw [i_le, i_lt]
  have e := e_lit
  have e12 : (12 : Int32).toInt = 12 := by decide
  exact propext ⟨fun _ => by omega, fun _ => by omega⟩
theorem ki_or (k : Int32) : isKi k = (decide (k = 0) || (decide (k = 1) || decide (k = 2))) := by
  unfold isKi inr
  have e := e_lit
  rw [Bool.eq_iff_iff]
  simp only [Bool.and_eq_true, Bool.or_eq_true, decide_eq_true_eq, i_le, ← Int32.toInt_inj]
  omega
theorem nar01 (b : Bool) : vp_nar .boolean (b01 b) = b01 b := by cases b <;> rfl
section RZ
variable {p : Program} {l : Launch} {e : Env} {R : Room} {s : State} {m : MethodId} {args : Array Value} {below : List Frame} {meth : Method} {c : Code} {H H0 : Heap} {locs : List Loc} {cells slots : Nat} {Q : State → Prop} {cc : ByteArray} {nL pc : Nat} {own : String} {Z : ZT} {A : Nat → Prop} {ls : Array Slot} {rest : List Value} {q : Nat → Nat} {S : St} {X : XC}
theorem tC_10 (E : EW p m c cc nL s args own Z) (G : GW Z (CW Z q S X) A H0 H locs) {i x : Int32} (hin : vp_in i 6) (h01 : vp_nar .boolean x = x) (hdg : decode cc pc = .ok (.bastore, 1)) (kk : ∀ (H1 : Heap) (locs1 : List Loc), GW Z (CW Z q (u_sc S (au (s_sc S) i x)) X) A H0 H1 locs1 → W p l e R s m args below meth c H1 locs1 cells slots Q (F0 m (pc + 1) ls rest)) : W p l e R s m args below meth c H locs cells slots Q (F0 m pc ls (.int x :: .int i :: .ref (q 10) :: rest)) := by
  refine va_zast E.1.1 E.1.2.1 E.2.1 G.1 G.2.1 G.2.2.1 10 1 rfl rfl hin hdg (fun H1 locs1 h1 h2 h3 => ?_)
  rw [h01] at h1 h2
  exact kk H1 locs1 ⟨h1, h2, h3, G.2.2.2⟩
end RZ
-- law, licences, worth, ways
def isLi (S : St) (v s : Int32) : Bool := decide ((ar (s_li S) v >>> (s &&& 31)) &&& 1 = 1)
def isBa (S : St) (s h : Int32) : Bool := decide (ar (s_sc S) s = 1) && inr h (s_bf S) (s_bt S)
def may (S : St) (v s h : Int32) : Bool := isLi S v s && !isBa S s h
def wor (S : St) (s h : Int32) : Int32 := ar (s_wi S) (s * 12 + h) * (s_he S + 2) / 4
def lat (S : St) (v a b : Int32) : Int32 := if a = b then 1 else 1 + ar (s_wy S) (a * 6 + b) + (if ar (s_ki S) v = 2 then 1 else 0)
theorem sc01 {S : St} (hI : Inv S) (s : Int32) : ar (s_sc S) s = 0 ∨ ar (s_sc S) s = 1 := hI.2.1 _
-- stands
def laS (S : St) (v : Int32) : Nat → Int32
  | 0 => -1
  | k + 1 => if s_sv S k = v then nI k else laS S v k
def taS (S : St) (a h : Int32) : Nat → Bool
  | 0 => false
  | k + 1 => taS S a h k || (decide (s_ss S k = a) && decide (s_sh S k = h))
theorem taS_mono {S : St} {a h : Int32} {k : Nat} (c : taS S a h k = true) : ∀ n, k ≤ n → taS S a h n = true := by
  intro n hn
  induction n with
  | zero => rw [show k = 0 by omega] at c; exact c
  | succ n ih =>
    rcases Nat.lt_or_ge k (n + 1) with g | g
    · unfold taS; rw [ih (by omega)]; rfl
    · rw [show k = n + 1 by omega] at c; exact c
def coS (S : St) (v a : Int32) : Nat → Int32
  | 0 => 0
  | k + 1 => if s_sv S k = v ∧ s_ss S k = a then coS S v a k + 1 else coS S v a k
theorem ar_nI (f : Nat → Int32) {k : Nat} (h : k < 2 ^ 31) : ar f (nI k) = f k := by unfold ar; rw [nI_clamp h]
theorem cl_le {x : Int32} {n : Nat} (h0 : 0 ≤ x) (h : x.toInt ≤ n) : x.toNatClampNeg ≤ n := by
  obtain ⟨j, hj, e⟩ := nI_of (x := x) (Int32.not_lt.mpr h0)
  rw [e, nI_toInt hj] at h
  rw [e, nI_clamp hj]
  omega
theorem ix_k {k N n : Nat} (h : k < N) (hN : N ≤ n) (hn : n < 2 ^ 31) : vp_in (nI k) n := vp_in_nI (by omega) hn
theorem cl_nI {x : Int32} (h0 : 0 ≤ x) : nI x.toNatClampNeg = x := by
  obtain ⟨j, hj, e⟩ := nI_of (x := x) (Int32.not_lt.mpr h0)
  rw [e, nI_clamp hj]
theorem at_st {S : St} {a : Int32} (h : isAt S a = true) : isSt S (a / 100) = true := by
  unfold isAt at h; simp only [Bool.and_eq_true] at h; exact h.2.1
theorem at_ho {S : St} {a : Int32} (h : isAt S a = true) : isHo (ho a) = true := by
  unfold isAt at h; simp only [Bool.and_eq_true] at h; exact h.2.2
theorem at_0 {S : St} {a : Int32} (h : isAt S a = true) : 0 ≤ a := by
  unfold isAt at h; simp only [Bool.and_eq_true, decide_eq_true_eq] at h; exact h.1
theorem iy_wy {S : St} (hI : Inv S) {a b : Int32} (ha : isSt S a = true) (hb : isSt S b = true) : vp_in (6 * a + b) 36 := by rw [Int32.mul_comm]; exact ix_wy hI ha hb
theorem iy_wi {S : St} (hI : Inv S) {a b : Int32} (ha : isSt S a = true) (hb : isHo b = true) : vp_in (12 * a + b) 72 := by rw [Int32.mul_comm]; exact ix_wi hI ha hb
end
section
theorem e_s_st_va (T : St) (v : Int32) : s_st (u_va T v) = s_st T := rfl
theorem e_s_st_sd (T : St) (v : Int32) : s_st (u_sd T v) = s_st T := rfl
theorem e_s_st_bi (T : St) (v : Int32) : s_st (u_bi T v) = s_st T := rfl
theorem e_s_st_wa (T : St) (v : Int32) : s_st (u_wa T v) = s_st T := rfl
theorem e_s_st_he (T : St) (v : Int32) : s_st (u_he T v) = s_st T := rfl
theorem e_s_st_bf (T : St) (v : Int32) : s_st (u_bf T v) = s_st T := rfl
theorem e_s_st_bt (T : St) (v : Int32) : s_st (u_bt T v) = s_st T := rfl
theorem e_s_st_cm (T : St) (v : Int32) : s_st (u_cm T v) = s_st T := rfl
theorem e_s_st_cr (T : St) (v : Int32) : s_st (u_cr T v) = s_st T := rfl
theorem e_s_st_sc (T : St) (v : Nat → Int32) : s_st (u_sc T v) = s_st T := rfl
theorem e_s_st_wy (T : St) (v : Nat → Int32) : s_st (u_wy T v) = s_st T := rfl
theorem e_s_st_wi (T : St) (v : Nat → Int32) : s_st (u_wi T v) = s_st T := rfl
theorem e_s_st_ki (T : St) (v : Nat → Int32) : s_st (u_ki T v) = s_st T := rfl
theorem e_s_st_so (T : St) (v : Nat → Int32) : s_st (u_so T v) = s_st T := rfl
theorem e_s_st_li (T : St) (v : Nat → Int32) : s_st (u_li T v) = s_st T := rfl
theorem e_s_st_sv (T : St) (v : Nat → Int32) : s_st (u_sv T v) = s_st T := rfl
theorem e_s_st_ss (T : St) (v : Nat → Int32) : s_st (u_ss T v) = s_st T := rfl
theorem e_s_st_sh (T : St) (v : Nat → Int32) : s_st (u_sh T v) = s_st T := rfl
theorem e_s_st_sm (T : St) (v : Nat → Int32) : s_st (u_sm T v) = s_st T := rfl
theorem e_s_st_le (T : St) (v : Nat → Int32) : s_st (u_le T v) = s_st T := rfl
theorem e_s_st_bd (T : St) (v : Nat → Int32) : s_st (u_bd T v) = s_st T := rfl
theorem e_s_st_du (T : St) (v : Nat → Int32) : s_st (u_du T v) = s_st T := rfl
theorem e_s_st_wt (T : St) (v : Nat → Int32) : s_st (u_wt T v) = s_st T := rfl
theorem e_s_st_co (T : St) (v : Nat → Int32) : s_st (u_co T v) = s_st T := rfl
theorem es_s_st (T : St) (v : Int32) : s_st (u_st T v) = v := rfl
theorem uu_s_st (T : St) (v w : Int32) : u_st (u_st T v) w = u_st T w := rfl
theorem e_s_va_st (T : St) (v : Int32) : s_va (u_st T v) = s_va T := rfl
theorem e_s_va_sd (T : St) (v : Int32) : s_va (u_sd T v) = s_va T := rfl
theorem e_s_va_bi (T : St) (v : Int32) : s_va (u_bi T v) = s_va T := rfl
theorem e_s_va_wa (T : St) (v : Int32) : s_va (u_wa T v) = s_va T := rfl
theorem e_s_va_he (T : St) (v : Int32) : s_va (u_he T v) = s_va T := rfl
theorem e_s_va_bf (T : St) (v : Int32) : s_va (u_bf T v) = s_va T := rfl
theorem e_s_va_bt (T : St) (v : Int32) : s_va (u_bt T v) = s_va T := rfl
theorem e_s_va_cm (T : St) (v : Int32) : s_va (u_cm T v) = s_va T := rfl
theorem e_s_va_cr (T : St) (v : Int32) : s_va (u_cr T v) = s_va T := rfl
theorem e_s_va_sc (T : St) (v : Nat → Int32) : s_va (u_sc T v) = s_va T := rfl
theorem e_s_va_wy (T : St) (v : Nat → Int32) : s_va (u_wy T v) = s_va T := rfl
theorem e_s_va_wi (T : St) (v : Nat → Int32) : s_va (u_wi T v) = s_va T := rfl
theorem e_s_va_ki (T : St) (v : Nat → Int32) : s_va (u_ki T v) = s_va T := rfl
theorem e_s_va_so (T : St) (v : Nat → Int32) : s_va (u_so T v) = s_va T := rfl
theorem e_s_va_li (T : St) (v : Nat → Int32) : s_va (u_li T v) = s_va T := rfl
theorem e_s_va_sv (T : St) (v : Nat → Int32) : s_va (u_sv T v) = s_va T := rfl
theorem e_s_va_ss (T : St) (v : Nat → Int32) : s_va (u_ss T v) = s_va T := rfl
theorem e_s_va_sh (T : St) (v : Nat → Int32) : s_va (u_sh T v) = s_va T := rfl
theorem e_s_va_sm (T : St) (v : Nat → Int32) : s_va (u_sm T v) = s_va T := rfl
theorem e_s_va_le (T : St) (v : Nat → Int32) : s_va (u_le T v) = s_va T := rfl
theorem e_s_va_bd (T : St) (v : Nat → Int32) : s_va (u_bd T v) = s_va T := rfl
theorem e_s_va_du (T : St) (v : Nat → Int32) : s_va (u_du T v) = s_va T := rfl
theorem e_s_va_wt (T : St) (v : Nat → Int32) : s_va (u_wt T v) = s_va T := rfl
theorem e_s_va_co (T : St) (v : Nat → Int32) : s_va (u_co T v) = s_va T := rfl
theorem es_s_va (T : St) (v : Int32) : s_va (u_va T v) = v := rfl
theorem uu_s_va (T : St) (v w : Int32) : u_va (u_va T v) w = u_va T w := rfl
theorem e_s_sd_st (T : St) (v : Int32) : s_sd (u_st T v) = s_sd T := rfl
theorem e_s_sd_va (T : St) (v : Int32) : s_sd (u_va T v) = s_sd T := rfl
theorem e_s_sd_bi (T : St) (v : Int32) : s_sd (u_bi T v) = s_sd T := rfl
theorem e_s_sd_wa (T : St) (v : Int32) : s_sd (u_wa T v) = s_sd T := rfl
theorem e_s_sd_he (T : St) (v : Int32) : s_sd (u_he T v) = s_sd T := rfl
theorem e_s_sd_bf (T : St) (v : Int32) : s_sd (u_bf T v) = s_sd T := rfl
theorem e_s_sd_bt (T : St) (v : Int32) : s_sd (u_bt T v) = s_sd T := rfl
theorem e_s_sd_cm (T : St) (v : Int32) : s_sd (u_cm T v) = s_sd T := rfl
theorem e_s_sd_cr (T : St) (v : Int32) : s_sd (u_cr T v) = s_sd T := rfl
theorem e_s_sd_sc (T : St) (v : Nat → Int32) : s_sd (u_sc T v) = s_sd T := rfl
theorem e_s_sd_wy (T : St) (v : Nat → Int32) : s_sd (u_wy T v) = s_sd T := rfl
theorem e_s_sd_wi (T : St) (v : Nat → Int32) : s_sd (u_wi T v) = s_sd T := rfl
theorem e_s_sd_ki (T : St) (v : Nat → Int32) : s_sd (u_ki T v) = s_sd T := rfl
theorem e_s_sd_so (T : St) (v : Nat → Int32) : s_sd (u_so T v) = s_sd T := rfl
theorem e_s_sd_li (T : St) (v : Nat → Int32) : s_sd (u_li T v) = s_sd T := rfl
theorem e_s_sd_sv (T : St) (v : Nat → Int32) : s_sd (u_sv T v) = s_sd T := rfl
theorem e_s_sd_ss (T : St) (v : Nat → Int32) : s_sd (u_ss T v) = s_sd T := rfl
theorem e_s_sd_sh (T : St) (v : Nat → Int32) : s_sd (u_sh T v) = s_sd T := rfl
theorem e_s_sd_sm (T : St) (v : Nat → Int32) : s_sd (u_sm T v) = s_sd T := rfl
theorem e_s_sd_le (T : St) (v : Nat → Int32) : s_sd (u_le T v) = s_sd T := rfl
theorem e_s_sd_bd (T : St) (v : Nat → Int32) : s_sd (u_bd T v) = s_sd T := rfl
theorem e_s_sd_du (T : St) (v : Nat → Int32) : s_sd (u_du T v) = s_sd T := rfl
theorem e_s_sd_wt (T : St) (v : Nat → Int32) : s_sd (u_wt T v) = s_sd T := rfl
theorem e_s_sd_co (T : St) (v : Nat → Int32) : s_sd (u_co T v) = s_sd T := rfl
theorem es_s_sd (T : St) (v : Int32) : s_sd (u_sd T v) = v := rfl
theorem uu_s_sd (T : St) (v w : Int32) : u_sd (u_sd T v) w = u_sd T w := rfl
theorem e_s_bi_st (T : St) (v : Int32) : s_bi (u_st T v) = s_bi T := rfl
theorem e_s_bi_va (T : St) (v : Int32) : s_bi (u_va T v) = s_bi T := rfl
theorem e_s_bi_sd (T : St) (v : Int32) : s_bi (u_sd T v) = s_bi T := rfl
theorem e_s_bi_wa (T : St) (v : Int32) : s_bi (u_wa T v) = s_bi T := rfl
theorem e_s_bi_he (T : St) (v : Int32) : s_bi (u_he T v) = s_bi T := rfl
theorem e_s_bi_bf (T : St) (v : Int32) : s_bi (u_bf T v) = s_bi T := rfl
theorem e_s_bi_bt (T : St) (v : Int32) : s_bi (u_bt T v) = s_bi T := rfl
theorem e_s_bi_cm (T : St) (v : Int32) : s_bi (u_cm T v) = s_bi T := rfl
theorem e_s_bi_cr (T : St) (v : Int32) : s_bi (u_cr T v) = s_bi T := rfl
theorem e_s_bi_sc (T : St) (v : Nat → Int32) : s_bi (u_sc T v) = s_bi T := rfl
theorem e_s_bi_wy (T : St) (v : Nat → Int32) : s_bi (u_wy T v) = s_bi T := rfl
theorem e_s_bi_wi (T : St) (v : Nat → Int32) : s_bi (u_wi T v) = s_bi T := rfl
theorem e_s_bi_ki (T : St) (v : Nat → Int32) : s_bi (u_ki T v) = s_bi T := rfl
theorem e_s_bi_so (T : St) (v : Nat → Int32) : s_bi (u_so T v) = s_bi T := rfl
theorem e_s_bi_li (T : St) (v : Nat → Int32) : s_bi (u_li T v) = s_bi T := rfl
theorem e_s_bi_sv (T : St) (v : Nat → Int32) : s_bi (u_sv T v) = s_bi T := rfl
theorem e_s_bi_ss (T : St) (v : Nat → Int32) : s_bi (u_ss T v) = s_bi T := rfl
theorem e_s_bi_sh (T : St) (v : Nat → Int32) : s_bi (u_sh T v) = s_bi T := rfl
theorem e_s_bi_sm (T : St) (v : Nat → Int32) : s_bi (u_sm T v) = s_bi T := rfl
theorem e_s_bi_le (T : St) (v : Nat → Int32) : s_bi (u_le T v) = s_bi T := rfl
theorem e_s_bi_bd (T : St) (v : Nat → Int32) : s_bi (u_bd T v) = s_bi T := rfl
theorem e_s_bi_du (T : St) (v : Nat → Int32) : s_bi (u_du T v) = s_bi T := rfl
theorem e_s_bi_wt (T : St) (v : Nat → Int32) : s_bi (u_wt T v) = s_bi T := rfl
theorem e_s_bi_co (T : St) (v : Nat → Int32) : s_bi (u_co T v) = s_bi T := rfl
theorem es_s_bi (T : St) (v : Int32) : s_bi (u_bi T v) = v := rfl
theorem uu_s_bi (T : St) (v w : Int32) : u_bi (u_bi T v) w = u_bi T w := rfl
theorem e_s_wa_st (T : St) (v : Int32) : s_wa (u_st T v) = s_wa T := rfl
theorem e_s_wa_va (T : St) (v : Int32) : s_wa (u_va T v) = s_wa T := rfl
theorem e_s_wa_sd (T : St) (v : Int32) : s_wa (u_sd T v) = s_wa T := rfl
theorem e_s_wa_bi (T : St) (v : Int32) : s_wa (u_bi T v) = s_wa T := rfl
theorem e_s_wa_he (T : St) (v : Int32) : s_wa (u_he T v) = s_wa T := rfl
theorem e_s_wa_bf (T : St) (v : Int32) : s_wa (u_bf T v) = s_wa T := rfl
theorem e_s_wa_bt (T : St) (v : Int32) : s_wa (u_bt T v) = s_wa T := rfl
theorem e_s_wa_cm (T : St) (v : Int32) : s_wa (u_cm T v) = s_wa T := rfl
theorem e_s_wa_cr (T : St) (v : Int32) : s_wa (u_cr T v) = s_wa T := rfl
theorem e_s_wa_sc (T : St) (v : Nat → Int32) : s_wa (u_sc T v) = s_wa T := rfl
theorem e_s_wa_wy (T : St) (v : Nat → Int32) : s_wa (u_wy T v) = s_wa T := rfl
theorem e_s_wa_wi (T : St) (v : Nat → Int32) : s_wa (u_wi T v) = s_wa T := rfl
theorem e_s_wa_ki (T : St) (v : Nat → Int32) : s_wa (u_ki T v) = s_wa T := rfl
theorem e_s_wa_so (T : St) (v : Nat → Int32) : s_wa (u_so T v) = s_wa T := rfl
theorem e_s_wa_li (T : St) (v : Nat → Int32) : s_wa (u_li T v) = s_wa T := rfl
theorem e_s_wa_sv (T : St) (v : Nat → Int32) : s_wa (u_sv T v) = s_wa T := rfl
theorem e_s_wa_ss (T : St) (v : Nat → Int32) : s_wa (u_ss T v) = s_wa T := rfl
theorem e_s_wa_sh (T : St) (v : Nat → Int32) : s_wa (u_sh T v) = s_wa T := rfl
theorem e_s_wa_sm (T : St) (v : Nat → Int32) : s_wa (u_sm T v) = s_wa T := rfl
theorem e_s_wa_le (T : St) (v : Nat → Int32) : s_wa (u_le T v) = s_wa T := rfl
theorem e_s_wa_bd (T : St) (v : Nat → Int32) : s_wa (u_bd T v) = s_wa T := rfl
theorem e_s_wa_du (T : St) (v : Nat → Int32) : s_wa (u_du T v) = s_wa T := rfl
theorem e_s_wa_wt (T : St) (v : Nat → Int32) : s_wa (u_wt T v) = s_wa T := rfl
theorem e_s_wa_co (T : St) (v : Nat → Int32) : s_wa (u_co T v) = s_wa T := rfl
theorem es_s_wa (T : St) (v : Int32) : s_wa (u_wa T v) = v := rfl
theorem uu_s_wa (T : St) (v w : Int32) : u_wa (u_wa T v) w = u_wa T w := rfl
theorem e_s_he_st (T : St) (v : Int32) : s_he (u_st T v) = s_he T := rfl
theorem e_s_he_va (T : St) (v : Int32) : s_he (u_va T v) = s_he T := rfl
theorem e_s_he_sd (T : St) (v : Int32) : s_he (u_sd T v) = s_he T := rfl
theorem e_s_he_bi (T : St) (v : Int32) : s_he (u_bi T v) = s_he T := rfl
theorem e_s_he_wa (T : St) (v : Int32) : s_he (u_wa T v) = s_he T := rfl
theorem e_s_he_bf (T : St) (v : Int32) : s_he (u_bf T v) = s_he T := rfl
theorem e_s_he_bt (T : St) (v : Int32) : s_he (u_bt T v) = s_he T := rfl
theorem e_s_he_cm (T : St) (v : Int32) : s_he (u_cm T v) = s_he T := rfl
theorem e_s_he_cr (T : St) (v : Int32) : s_he (u_cr T v) = s_he T := rfl
theorem e_s_he_sc (T : St) (v : Nat → Int32) : s_he (u_sc T v) = s_he T := rfl
theorem e_s_he_wy (T : St) (v : Nat → Int32) : s_he (u_wy T v) = s_he T := rfl
theorem e_s_he_wi (T : St) (v : Nat → Int32) : s_he (u_wi T v) = s_he T := rfl
theorem e_s_he_ki (T : St) (v : Nat → Int32) : s_he (u_ki T v) = s_he T := rfl
theorem e_s_he_so (T : St) (v : Nat → Int32) : s_he (u_so T v) = s_he T := rfl
theorem e_s_he_li (T : St) (v : Nat → Int32) : s_he (u_li T v) = s_he T := rfl
theorem e_s_he_sv (T : St) (v : Nat → Int32) : s_he (u_sv T v) = s_he T := rfl
theorem e_s_he_ss (T : St) (v : Nat → Int32) : s_he (u_ss T v) = s_he T := rfl
theorem e_s_he_sh (T : St) (v : Nat → Int32) : s_he (u_sh T v) = s_he T := rfl
theorem e_s_he_sm (T : St) (v : Nat → Int32) : s_he (u_sm T v) = s_he T := rfl
theorem e_s_he_le (T : St) (v : Nat → Int32) : s_he (u_le T v) = s_he T := rfl
theorem e_s_he_bd (T : St) (v : Nat → Int32) : s_he (u_bd T v) = s_he T := rfl
theorem e_s_he_du (T : St) (v : Nat → Int32) : s_he (u_du T v) = s_he T := rfl
theorem e_s_he_wt (T : St) (v : Nat → Int32) : s_he (u_wt T v) = s_he T := rfl
theorem e_s_he_co (T : St) (v : Nat → Int32) : s_he (u_co T v) = s_he T := rfl
theorem es_s_he (T : St) (v : Int32) : s_he (u_he T v) = v := rfl
theorem uu_s_he (T : St) (v w : Int32) : u_he (u_he T v) w = u_he T w := rfl
theorem e_s_bf_st (T : St) (v : Int32) : s_bf (u_st T v) = s_bf T := rfl
theorem e_s_bf_va (T : St) (v : Int32) : s_bf (u_va T v) = s_bf T := rfl
theorem e_s_bf_sd (T : St) (v : Int32) : s_bf (u_sd T v) = s_bf T := rfl
theorem e_s_bf_bi (T : St) (v : Int32) : s_bf (u_bi T v) = s_bf T := rfl
theorem e_s_bf_wa (T : St) (v : Int32) : s_bf (u_wa T v) = s_bf T := rfl
theorem e_s_bf_he (T : St) (v : Int32) : s_bf (u_he T v) = s_bf T := rfl
theorem e_s_bf_bt (T : St) (v : Int32) : s_bf (u_bt T v) = s_bf T := rfl
theorem e_s_bf_cm (T : St) (v : Int32) : s_bf (u_cm T v) = s_bf T := rfl
theorem e_s_bf_cr (T : St) (v : Int32) : s_bf (u_cr T v) = s_bf T := rfl
theorem e_s_bf_sc (T : St) (v : Nat → Int32) : s_bf (u_sc T v) = s_bf T := rfl
theorem e_s_bf_wy (T : St) (v : Nat → Int32) : s_bf (u_wy T v) = s_bf T := rfl
theorem e_s_bf_wi (T : St) (v : Nat → Int32) : s_bf (u_wi T v) = s_bf T := rfl
theorem e_s_bf_ki (T : St) (v : Nat → Int32) : s_bf (u_ki T v) = s_bf T := rfl
theorem e_s_bf_so (T : St) (v : Nat → Int32) : s_bf (u_so T v) = s_bf T := rfl
theorem e_s_bf_li (T : St) (v : Nat → Int32) : s_bf (u_li T v) = s_bf T := rfl
theorem e_s_bf_sv (T : St) (v : Nat → Int32) : s_bf (u_sv T v) = s_bf T := rfl
theorem e_s_bf_ss (T : St) (v : Nat → Int32) : s_bf (u_ss T v) = s_bf T := rfl
theorem e_s_bf_sh (T : St) (v : Nat → Int32) : s_bf (u_sh T v) = s_bf T := rfl
theorem e_s_bf_sm (T : St) (v : Nat → Int32) : s_bf (u_sm T v) = s_bf T := rfl
theorem e_s_bf_le (T : St) (v : Nat → Int32) : s_bf (u_le T v) = s_bf T := rfl
theorem e_s_bf_bd (T : St) (v : Nat → Int32) : s_bf (u_bd T v) = s_bf T := rfl
theorem e_s_bf_du (T : St) (v : Nat → Int32) : s_bf (u_du T v) = s_bf T := rfl
theorem e_s_bf_wt (T : St) (v : Nat → Int32) : s_bf (u_wt T v) = s_bf T := rfl
theorem e_s_bf_co (T : St) (v : Nat → Int32) : s_bf (u_co T v) = s_bf T := rfl
theorem es_s_bf (T : St) (v : Int32) : s_bf (u_bf T v) = v := rfl
theorem uu_s_bf (T : St) (v w : Int32) : u_bf (u_bf T v) w = u_bf T w := rfl
theorem e_s_bt_st (T : St) (v : Int32) : s_bt (u_st T v) = s_bt T := rfl
theorem e_s_bt_va (T : St) (v : Int32) : s_bt (u_va T v) = s_bt T := rfl
theorem e_s_bt_sd (T : St) (v : Int32) : s_bt (u_sd T v) = s_bt T := rfl
theorem e_s_bt_bi (T : St) (v : Int32) : s_bt (u_bi T v) = s_bt T := rfl
theorem e_s_bt_wa (T : St) (v : Int32) : s_bt (u_wa T v) = s_bt T := rfl
theorem e_s_bt_he (T : St) (v : Int32) : s_bt (u_he T v) = s_bt T := rfl
theorem e_s_bt_bf (T : St) (v : Int32) : s_bt (u_bf T v) = s_bt T := rfl
theorem e_s_bt_cm (T : St) (v : Int32) : s_bt (u_cm T v) = s_bt T := rfl
theorem e_s_bt_cr (T : St) (v : Int32) : s_bt (u_cr T v) = s_bt T := rfl
theorem e_s_bt_sc (T : St) (v : Nat → Int32) : s_bt (u_sc T v) = s_bt T := rfl
theorem e_s_bt_wy (T : St) (v : Nat → Int32) : s_bt (u_wy T v) = s_bt T := rfl
theorem e_s_bt_wi (T : St) (v : Nat → Int32) : s_bt (u_wi T v) = s_bt T := rfl
theorem e_s_bt_ki (T : St) (v : Nat → Int32) : s_bt (u_ki T v) = s_bt T := rfl
theorem e_s_bt_so (T : St) (v : Nat → Int32) : s_bt (u_so T v) = s_bt T := rfl
theorem e_s_bt_li (T : St) (v : Nat → Int32) : s_bt (u_li T v) = s_bt T := rfl
theorem e_s_bt_sv (T : St) (v : Nat → Int32) : s_bt (u_sv T v) = s_bt T := rfl
theorem e_s_bt_ss (T : St) (v : Nat → Int32) : s_bt (u_ss T v) = s_bt T := rfl
theorem e_s_bt_sh (T : St) (v : Nat → Int32) : s_bt (u_sh T v) = s_bt T := rfl
theorem e_s_bt_sm (T : St) (v : Nat → Int32) : s_bt (u_sm T v) = s_bt T := rfl
theorem e_s_bt_le (T : St) (v : Nat → Int32) : s_bt (u_le T v) = s_bt T := rfl
theorem e_s_bt_bd (T : St) (v : Nat → Int32) : s_bt (u_bd T v) = s_bt T := rfl
theorem e_s_bt_du (T : St) (v : Nat → Int32) : s_bt (u_du T v) = s_bt T := rfl
theorem e_s_bt_wt (T : St) (v : Nat → Int32) : s_bt (u_wt T v) = s_bt T := rfl
theorem e_s_bt_co (T : St) (v : Nat → Int32) : s_bt (u_co T v) = s_bt T := rfl
theorem es_s_bt (T : St) (v : Int32) : s_bt (u_bt T v) = v := rfl
theorem uu_s_bt (T : St) (v w : Int32) : u_bt (u_bt T v) w = u_bt T w := rfl
theorem e_s_cm_st (T : St) (v : Int32) : s_cm (u_st T v) = s_cm T := rfl
theorem e_s_cm_va (T : St) (v : Int32) : s_cm (u_va T v) = s_cm T := rfl
theorem e_s_cm_sd (T : St) (v : Int32) : s_cm (u_sd T v) = s_cm T := rfl
theorem e_s_cm_bi (T : St) (v : Int32) : s_cm (u_bi T v) = s_cm T := rfl
theorem e_s_cm_wa (T : St) (v : Int32) : s_cm (u_wa T v) = s_cm T := rfl
theorem e_s_cm_he (T : St) (v : Int32) : s_cm (u_he T v) = s_cm T := rfl
theorem e_s_cm_bf (T : St) (v : Int32) : s_cm (u_bf T v) = s_cm T := rfl
theorem e_s_cm_bt (T : St) (v : Int32) : s_cm (u_bt T v) = s_cm T := rfl
theorem e_s_cm_cr (T : St) (v : Int32) : s_cm (u_cr T v) = s_cm T := rfl
theorem e_s_cm_sc (T : St) (v : Nat → Int32) : s_cm (u_sc T v) = s_cm T := rfl
theorem e_s_cm_wy (T : St) (v : Nat → Int32) : s_cm (u_wy T v) = s_cm T := rfl
theorem e_s_cm_wi (T : St) (v : Nat → Int32) : s_cm (u_wi T v) = s_cm T := rfl
theorem e_s_cm_ki (T : St) (v : Nat → Int32) : s_cm (u_ki T v) = s_cm T := rfl
theorem e_s_cm_so (T : St) (v : Nat → Int32) : s_cm (u_so T v) = s_cm T := rfl
theorem e_s_cm_li (T : St) (v : Nat → Int32) : s_cm (u_li T v) = s_cm T := rfl
theorem e_s_cm_sv (T : St) (v : Nat → Int32) : s_cm (u_sv T v) = s_cm T := rfl
theorem e_s_cm_ss (T : St) (v : Nat → Int32) : s_cm (u_ss T v) = s_cm T := rfl
theorem e_s_cm_sh (T : St) (v : Nat → Int32) : s_cm (u_sh T v) = s_cm T := rfl
theorem e_s_cm_sm (T : St) (v : Nat → Int32) : s_cm (u_sm T v) = s_cm T := rfl
theorem e_s_cm_le (T : St) (v : Nat → Int32) : s_cm (u_le T v) = s_cm T := rfl
theorem e_s_cm_bd (T : St) (v : Nat → Int32) : s_cm (u_bd T v) = s_cm T := rfl
theorem e_s_cm_du (T : St) (v : Nat → Int32) : s_cm (u_du T v) = s_cm T := rfl
theorem e_s_cm_wt (T : St) (v : Nat → Int32) : s_cm (u_wt T v) = s_cm T := rfl
theorem e_s_cm_co (T : St) (v : Nat → Int32) : s_cm (u_co T v) = s_cm T := rfl
theorem es_s_cm (T : St) (v : Int32) : s_cm (u_cm T v) = v := rfl
theorem uu_s_cm (T : St) (v w : Int32) : u_cm (u_cm T v) w = u_cm T w := rfl
theorem e_s_cr_st (T : St) (v : Int32) : s_cr (u_st T v) = s_cr T := rfl
theorem e_s_cr_va (T : St) (v : Int32) : s_cr (u_va T v) = s_cr T := rfl
theorem e_s_cr_sd (T : St) (v : Int32) : s_cr (u_sd T v) = s_cr T := rfl
theorem e_s_cr_bi (T : St) (v : Int32) : s_cr (u_bi T v) = s_cr T := rfl
theorem e_s_cr_wa (T : St) (v : Int32) : s_cr (u_wa T v) = s_cr T := rfl
theorem e_s_cr_he (T : St) (v : Int32) : s_cr (u_he T v) = s_cr T := rfl
theorem e_s_cr_bf (T : St) (v : Int32) : s_cr (u_bf T v) = s_cr T := rfl
theorem e_s_cr_bt (T : St) (v : Int32) : s_cr (u_bt T v) = s_cr T := rfl
theorem e_s_cr_cm (T : St) (v : Int32) : s_cr (u_cm T v) = s_cr T := rfl
theorem e_s_cr_sc (T : St) (v : Nat → Int32) : s_cr (u_sc T v) = s_cr T := rfl
theorem e_s_cr_wy (T : St) (v : Nat → Int32) : s_cr (u_wy T v) = s_cr T := rfl
theorem e_s_cr_wi (T : St) (v : Nat → Int32) : s_cr (u_wi T v) = s_cr T := rfl
theorem e_s_cr_ki (T : St) (v : Nat → Int32) : s_cr (u_ki T v) = s_cr T := rfl
theorem e_s_cr_so (T : St) (v : Nat → Int32) : s_cr (u_so T v) = s_cr T := rfl
theorem e_s_cr_li (T : St) (v : Nat → Int32) : s_cr (u_li T v) = s_cr T := rfl
theorem e_s_cr_sv (T : St) (v : Nat → Int32) : s_cr (u_sv T v) = s_cr T := rfl
theorem e_s_cr_ss (T : St) (v : Nat → Int32) : s_cr (u_ss T v) = s_cr T := rfl
theorem e_s_cr_sh (T : St) (v : Nat → Int32) : s_cr (u_sh T v) = s_cr T := rfl
theorem e_s_cr_sm (T : St) (v : Nat → Int32) : s_cr (u_sm T v) = s_cr T := rfl
theorem e_s_cr_le (T : St) (v : Nat → Int32) : s_cr (u_le T v) = s_cr T := rfl
theorem e_s_cr_bd (T : St) (v : Nat → Int32) : s_cr (u_bd T v) = s_cr T := rfl
theorem e_s_cr_du (T : St) (v : Nat → Int32) : s_cr (u_du T v) = s_cr T := rfl
theorem e_s_cr_wt (T : St) (v : Nat → Int32) : s_cr (u_wt T v) = s_cr T := rfl
theorem e_s_cr_co (T : St) (v : Nat → Int32) : s_cr (u_co T v) = s_cr T := rfl
theorem es_s_cr (T : St) (v : Int32) : s_cr (u_cr T v) = v := rfl
theorem uu_s_cr (T : St) (v w : Int32) : u_cr (u_cr T v) w = u_cr T w := rfl
theorem e_s_sc_st (T : St) (v : Int32) : s_sc (u_st T v) = s_sc T := rfl
theorem e_s_sc_va (T : St) (v : Int32) : s_sc (u_va T v) = s_sc T := rfl
theorem e_s_sc_sd (T : St) (v : Int32) : s_sc (u_sd T v) = s_sc T := rfl
theorem e_s_sc_bi (T : St) (v : Int32) : s_sc (u_bi T v) = s_sc T := rfl
theorem e_s_sc_wa (T : St) (v : Int32) : s_sc (u_wa T v) = s_sc T := rfl
theorem e_s_sc_he (T : St) (v : Int32) : s_sc (u_he T v) = s_sc T := rfl
theorem e_s_sc_bf (T : St) (v : Int32) : s_sc (u_bf T v) = s_sc T := rfl
theorem e_s_sc_bt (T : St) (v : Int32) : s_sc (u_bt T v) = s_sc T := rfl
theorem e_s_sc_cm (T : St) (v : Int32) : s_sc (u_cm T v) = s_sc T := rfl
theorem e_s_sc_cr (T : St) (v : Int32) : s_sc (u_cr T v) = s_sc T := rfl
theorem e_s_sc_wy (T : St) (v : Nat → Int32) : s_sc (u_wy T v) = s_sc T := rfl
theorem e_s_sc_wi (T : St) (v : Nat → Int32) : s_sc (u_wi T v) = s_sc T := rfl
theorem e_s_sc_ki (T : St) (v : Nat → Int32) : s_sc (u_ki T v) = s_sc T := rfl
theorem e_s_sc_so (T : St) (v : Nat → Int32) : s_sc (u_so T v) = s_sc T := rfl
theorem e_s_sc_li (T : St) (v : Nat → Int32) : s_sc (u_li T v) = s_sc T := rfl
theorem e_s_sc_sv (T : St) (v : Nat → Int32) : s_sc (u_sv T v) = s_sc T := rfl
theorem e_s_sc_ss (T : St) (v : Nat → Int32) : s_sc (u_ss T v) = s_sc T := rfl
theorem e_s_sc_sh (T : St) (v : Nat → Int32) : s_sc (u_sh T v) = s_sc T := rfl
theorem e_s_sc_sm (T : St) (v : Nat → Int32) : s_sc (u_sm T v) = s_sc T := rfl
theorem e_s_sc_le (T : St) (v : Nat → Int32) : s_sc (u_le T v) = s_sc T := rfl
theorem e_s_sc_bd (T : St) (v : Nat → Int32) : s_sc (u_bd T v) = s_sc T := rfl
theorem e_s_sc_du (T : St) (v : Nat → Int32) : s_sc (u_du T v) = s_sc T := rfl
theorem e_s_sc_wt (T : St) (v : Nat → Int32) : s_sc (u_wt T v) = s_sc T := rfl
theorem e_s_sc_co (T : St) (v : Nat → Int32) : s_sc (u_co T v) = s_sc T := rfl
theorem es_s_sc (T : St) (v : Nat → Int32) : s_sc (u_sc T v) = v := rfl
theorem uu_s_sc (T : St) (v w : Nat → Int32) : u_sc (u_sc T v) w = u_sc T w := rfl
theorem e_s_wy_st (T : St) (v : Int32) : s_wy (u_st T v) = s_wy T := rfl
theorem e_s_wy_va (T : St) (v : Int32) : s_wy (u_va T v) = s_wy T := rfl
theorem e_s_wy_sd (T : St) (v : Int32) : s_wy (u_sd T v) = s_wy T := rfl
theorem e_s_wy_bi (T : St) (v : Int32) : s_wy (u_bi T v) = s_wy T := rfl
theorem e_s_wy_wa (T : St) (v : Int32) : s_wy (u_wa T v) = s_wy T := rfl
theorem e_s_wy_he (T : St) (v : Int32) : s_wy (u_he T v) = s_wy T := rfl
theorem e_s_wy_bf (T : St) (v : Int32) : s_wy (u_bf T v) = s_wy T := rfl
theorem e_s_wy_bt (T : St) (v : Int32) : s_wy (u_bt T v) = s_wy T := rfl
theorem e_s_wy_cm (T : St) (v : Int32) : s_wy (u_cm T v) = s_wy T := rfl
theorem e_s_wy_cr (T : St) (v : Int32) : s_wy (u_cr T v) = s_wy T := rfl
theorem e_s_wy_sc (T : St) (v : Nat → Int32) : s_wy (u_sc T v) = s_wy T := rfl
theorem e_s_wy_wi (T : St) (v : Nat → Int32) : s_wy (u_wi T v) = s_wy T := rfl
theorem e_s_wy_ki (T : St) (v : Nat → Int32) : s_wy (u_ki T v) = s_wy T := rfl
theorem e_s_wy_so (T : St) (v : Nat → Int32) : s_wy (u_so T v) = s_wy T := rfl
theorem e_s_wy_li (T : St) (v : Nat → Int32) : s_wy (u_li T v) = s_wy T := rfl
theorem e_s_wy_sv (T : St) (v : Nat → Int32) : s_wy (u_sv T v) = s_wy T := rfl
theorem e_s_wy_ss (T : St) (v : Nat → Int32) : s_wy (u_ss T v) = s_wy T := rfl
theorem e_s_wy_sh (T : St) (v : Nat → Int32) : s_wy (u_sh T v) = s_wy T := rfl
theorem e_s_wy_sm (T : St) (v : Nat → Int32) : s_wy (u_sm T v) = s_wy T := rfl
theorem e_s_wy_le (T : St) (v : Nat → Int32) : s_wy (u_le T v) = s_wy T := rfl
theorem e_s_wy_bd (T : St) (v : Nat → Int32) : s_wy (u_bd T v) = s_wy T := rfl
theorem e_s_wy_du (T : St) (v : Nat → Int32) : s_wy (u_du T v) = s_wy T := rfl
theorem e_s_wy_wt (T : St) (v : Nat → Int32) : s_wy (u_wt T v) = s_wy T := rfl
theorem e_s_wy_co (T : St) (v : Nat → Int32) : s_wy (u_co T v) = s_wy T := rfl
theorem es_s_wy (T : St) (v : Nat → Int32) : s_wy (u_wy T v) = v := rfl
theorem uu_s_wy (T : St) (v w : Nat → Int32) : u_wy (u_wy T v) w = u_wy T w := rfl
theorem e_s_wi_st (T : St) (v : Int32) : s_wi (u_st T v) = s_wi T := rfl
theorem e_s_wi_va (T : St) (v : Int32) : s_wi (u_va T v) = s_wi T := rfl
theorem e_s_wi_sd (T : St) (v : Int32) : s_wi (u_sd T v) = s_wi T := rfl
theorem e_s_wi_bi (T : St) (v : Int32) : s_wi (u_bi T v) = s_wi T := rfl
theorem e_s_wi_wa (T : St) (v : Int32) : s_wi (u_wa T v) = s_wi T := rfl
theorem e_s_wi_he (T : St) (v : Int32) : s_wi (u_he T v) = s_wi T := rfl
theorem e_s_wi_bf (T : St) (v : Int32) : s_wi (u_bf T v) = s_wi T := rfl
theorem e_s_wi_bt (T : St) (v : Int32) : s_wi (u_bt T v) = s_wi T := rfl
theorem e_s_wi_cm (T : St) (v : Int32) : s_wi (u_cm T v) = s_wi T := rfl
theorem e_s_wi_cr (T : St) (v : Int32) : s_wi (u_cr T v) = s_wi T := rfl
theorem e_s_wi_sc (T : St) (v : Nat → Int32) : s_wi (u_sc T v) = s_wi T := rfl
theorem e_s_wi_wy (T : St) (v : Nat → Int32) : s_wi (u_wy T v) = s_wi T := rfl
theorem e_s_wi_ki (T : St) (v : Nat → Int32) : s_wi (u_ki T v) = s_wi T := rfl
theorem e_s_wi_so (T : St) (v : Nat → Int32) : s_wi (u_so T v) = s_wi T := rfl
theorem e_s_wi_li (T : St) (v : Nat → Int32) : s_wi (u_li T v) = s_wi T := rfl
theorem e_s_wi_sv (T : St) (v : Nat → Int32) : s_wi (u_sv T v) = s_wi T := rfl
theorem e_s_wi_ss (T : St) (v : Nat → Int32) : s_wi (u_ss T v) = s_wi T := rfl
theorem e_s_wi_sh (T : St) (v : Nat → Int32) : s_wi (u_sh T v) = s_wi T := rfl
theorem e_s_wi_sm (T : St) (v : Nat → Int32) : s_wi (u_sm T v) = s_wi T := rfl
theorem e_s_wi_le (T : St) (v : Nat → Int32) : s_wi (u_le T v) = s_wi T := rfl
theorem e_s_wi_bd (T : St) (v : Nat → Int32) : s_wi (u_bd T v) = s_wi T := rfl
theorem e_s_wi_du (T : St) (v : Nat → Int32) : s_wi (u_du T v) = s_wi T := rfl
theorem e_s_wi_wt (T : St) (v : Nat → Int32) : s_wi (u_wt T v) = s_wi T := rfl
theorem e_s_wi_co (T : St) (v : Nat → Int32) : s_wi (u_co T v) = s_wi T := rfl
theorem es_s_wi (T : St) (v : Nat → Int32) : s_wi (u_wi T v) = v := rfl
theorem uu_s_wi (T : St) (v w : Nat → Int32) : u_wi (u_wi T v) w = u_wi T w := rfl
theorem e_s_ki_st (T : St) (v : Int32) : s_ki (u_st T v) = s_ki T := rfl
theorem e_s_ki_va (T : St) (v : Int32) : s_ki (u_va T v) = s_ki T := rfl
theorem e_s_ki_sd (T : St) (v : Int32) : s_ki (u_sd T v) = s_ki T := rfl
theorem e_s_ki_bi (T : St) (v : Int32) : s_ki (u_bi T v) = s_ki T := rfl
theorem e_s_ki_wa (T : St) (v : Int32) : s_ki (u_wa T v) = s_ki T := rfl
theorem e_s_ki_he (T : St) (v : Int32) : s_ki (u_he T v) = s_ki T := rfl
theorem e_s_ki_bf (T : St) (v : Int32) : s_ki (u_bf T v) = s_ki T := rfl
theorem e_s_ki_bt (T : St) (v : Int32) : s_ki (u_bt T v) = s_ki T := rfl
theorem e_s_ki_cm (T : St) (v : Int32) : s_ki (u_cm T v) = s_ki T := rfl
theorem e_s_ki_cr (T : St) (v : Int32) : s_ki (u_cr T v) = s_ki T := rfl
theorem e_s_ki_sc (T : St) (v : Nat → Int32) : s_ki (u_sc T v) = s_ki T := rfl
theorem e_s_ki_wy (T : St) (v : Nat → Int32) : s_ki (u_wy T v) = s_ki T := rfl
theorem e_s_ki_wi (T : St) (v : Nat → Int32) : s_ki (u_wi T v) = s_ki T := rfl
theorem e_s_ki_so (T : St) (v : Nat → Int32) : s_ki (u_so T v) = s_ki T := rfl
theorem e_s_ki_li (T : St) (v : Nat → Int32) : s_ki (u_li T v) = s_ki T := rfl
theorem e_s_ki_sv (T : St) (v : Nat → Int32) : s_ki (u_sv T v) = s_ki T := rfl
theorem e_s_ki_ss (T : St) (v : Nat → Int32) : s_ki (u_ss T v) = s_ki T := rfl
theorem e_s_ki_sh (T : St) (v : Nat → Int32) : s_ki (u_sh T v) = s_ki T := rfl
theorem e_s_ki_sm (T : St) (v : Nat → Int32) : s_ki (u_sm T v) = s_ki T := rfl
theorem e_s_ki_le (T : St) (v : Nat → Int32) : s_ki (u_le T v) = s_ki T := rfl
theorem e_s_ki_bd (T : St) (v : Nat → Int32) : s_ki (u_bd T v) = s_ki T := rfl
theorem e_s_ki_du (T : St) (v : Nat → Int32) : s_ki (u_du T v) = s_ki T := rfl
theorem e_s_ki_wt (T : St) (v : Nat → Int32) : s_ki (u_wt T v) = s_ki T := rfl
theorem e_s_ki_co (T : St) (v : Nat → Int32) : s_ki (u_co T v) = s_ki T := rfl
theorem es_s_ki (T : St) (v : Nat → Int32) : s_ki (u_ki T v) = v := rfl
theorem uu_s_ki (T : St) (v w : Nat → Int32) : u_ki (u_ki T v) w = u_ki T w := rfl
theorem e_s_so_st (T : St) (v : Int32) : s_so (u_st T v) = s_so T := rfl
theorem e_s_so_va (T : St) (v : Int32) : s_so (u_va T v) = s_so T := rfl
theorem e_s_so_sd (T : St) (v : Int32) : s_so (u_sd T v) = s_so T := rfl
theorem e_s_so_bi (T : St) (v : Int32) : s_so (u_bi T v) = s_so T := rfl
theorem e_s_so_wa (T : St) (v : Int32) : s_so (u_wa T v) = s_so T := rfl
theorem e_s_so_he (T : St) (v : Int32) : s_so (u_he T v) = s_so T := rfl
theorem e_s_so_bf (T : St) (v : Int32) : s_so (u_bf T v) = s_so T := rfl
theorem e_s_so_bt (T : St) (v : Int32) : s_so (u_bt T v) = s_so T := rfl
theorem e_s_so_cm (T : St) (v : Int32) : s_so (u_cm T v) = s_so T := rfl
theorem e_s_so_cr (T : St) (v : Int32) : s_so (u_cr T v) = s_so T := rfl
theorem e_s_so_sc (T : St) (v : Nat → Int32) : s_so (u_sc T v) = s_so T := rfl
theorem e_s_so_wy (T : St) (v : Nat → Int32) : s_so (u_wy T v) = s_so T := rfl
theorem e_s_so_wi (T : St) (v : Nat → Int32) : s_so (u_wi T v) = s_so T := rfl
theorem e_s_so_ki (T : St) (v : Nat → Int32) : s_so (u_ki T v) = s_so T := rfl
theorem e_s_so_li (T : St) (v : Nat → Int32) : s_so (u_li T v) = s_so T := rfl
theorem e_s_so_sv (T : St) (v : Nat → Int32) : s_so (u_sv T v) = s_so T := rfl
theorem e_s_so_ss (T : St) (v : Nat → Int32) : s_so (u_ss T v) = s_so T := rfl
theorem e_s_so_sh (T : St) (v : Nat → Int32) : s_so (u_sh T v) = s_so T := rfl
theorem e_s_so_sm (T : St) (v : Nat → Int32) : s_so (u_sm T v) = s_so T := rfl
theorem e_s_so_le (T : St) (v : Nat → Int32) : s_so (u_le T v) = s_so T := rfl
theorem e_s_so_bd (T : St) (v : Nat → Int32) : s_so (u_bd T v) = s_so T := rfl
theorem e_s_so_du (T : St) (v : Nat → Int32) : s_so (u_du T v) = s_so T := rfl
theorem e_s_so_wt (T : St) (v : Nat → Int32) : s_so (u_wt T v) = s_so T := rfl
theorem e_s_so_co (T : St) (v : Nat → Int32) : s_so (u_co T v) = s_so T := rfl
theorem es_s_so (T : St) (v : Nat → Int32) : s_so (u_so T v) = v := rfl
theorem uu_s_so (T : St) (v w : Nat → Int32) : u_so (u_so T v) w = u_so T w := rfl
theorem e_s_li_st (T : St) (v : Int32) : s_li (u_st T v) = s_li T := rfl
theorem e_s_li_va (T : St) (v : Int32) : s_li (u_va T v) = s_li T := rfl
theorem e_s_li_sd (T : St) (v : Int32) : s_li (u_sd T v) = s_li T := rfl
theorem e_s_li_bi (T : St) (v : Int32) : s_li (u_bi T v) = s_li T := rfl
theorem e_s_li_wa (T : St) (v : Int32) : s_li (u_wa T v) = s_li T := rfl
theorem e_s_li_he (T : St) (v : Int32) : s_li (u_he T v) = s_li T := rfl
theorem e_s_li_bf (T : St) (v : Int32) : s_li (u_bf T v) = s_li T := rfl
theorem e_s_li_bt (T : St) (v : Int32) : s_li (u_bt T v) = s_li T := rfl
theorem e_s_li_cm (T : St) (v : Int32) : s_li (u_cm T v) = s_li T := rfl
theorem e_s_li_cr (T : St) (v : Int32) : s_li (u_cr T v) = s_li T := rfl
theorem e_s_li_sc (T : St) (v : Nat → Int32) : s_li (u_sc T v) = s_li T := rfl
theorem e_s_li_wy (T : St) (v : Nat → Int32) : s_li (u_wy T v) = s_li T := rfl
theorem e_s_li_wi (T : St) (v : Nat → Int32) : s_li (u_wi T v) = s_li T := rfl
theorem e_s_li_ki (T : St) (v : Nat → Int32) : s_li (u_ki T v) = s_li T := rfl
theorem e_s_li_so (T : St) (v : Nat → Int32) : s_li (u_so T v) = s_li T := rfl
theorem e_s_li_sv (T : St) (v : Nat → Int32) : s_li (u_sv T v) = s_li T := rfl
theorem e_s_li_ss (T : St) (v : Nat → Int32) : s_li (u_ss T v) = s_li T := rfl
theorem e_s_li_sh (T : St) (v : Nat → Int32) : s_li (u_sh T v) = s_li T := rfl
theorem e_s_li_sm (T : St) (v : Nat → Int32) : s_li (u_sm T v) = s_li T := rfl
theorem e_s_li_le (T : St) (v : Nat → Int32) : s_li (u_le T v) = s_li T := rfl
theorem e_s_li_bd (T : St) (v : Nat → Int32) : s_li (u_bd T v) = s_li T := rfl
theorem e_s_li_du (T : St) (v : Nat → Int32) : s_li (u_du T v) = s_li T := rfl
theorem e_s_li_wt (T : St) (v : Nat → Int32) : s_li (u_wt T v) = s_li T := rfl
theorem e_s_li_co (T : St) (v : Nat → Int32) : s_li (u_co T v) = s_li T := rfl
theorem es_s_li (T : St) (v : Nat → Int32) : s_li (u_li T v) = v := rfl
theorem uu_s_li (T : St) (v w : Nat → Int32) : u_li (u_li T v) w = u_li T w := rfl
theorem e_s_sv_st (T : St) (v : Int32) : s_sv (u_st T v) = s_sv T := rfl
theorem e_s_sv_va (T : St) (v : Int32) : s_sv (u_va T v) = s_sv T := rfl
theorem e_s_sv_sd (T : St) (v : Int32) : s_sv (u_sd T v) = s_sv T := rfl
theorem e_s_sv_bi (T : St) (v : Int32) : s_sv (u_bi T v) = s_sv T := rfl
theorem e_s_sv_wa (T : St) (v : Int32) : s_sv (u_wa T v) = s_sv T := rfl
theorem e_s_sv_he (T : St) (v : Int32) : s_sv (u_he T v) = s_sv T := rfl
theorem e_s_sv_bf (T : St) (v : Int32) : s_sv (u_bf T v) = s_sv T := rfl
theorem e_s_sv_bt (T : St) (v : Int32) : s_sv (u_bt T v) = s_sv T := rfl
theorem e_s_sv_cm (T : St) (v : Int32) : s_sv (u_cm T v) = s_sv T := rfl
theorem e_s_sv_cr (T : St) (v : Int32) : s_sv (u_cr T v) = s_sv T := rfl
theorem e_s_sv_sc (T : St) (v : Nat → Int32) : s_sv (u_sc T v) = s_sv T := rfl
theorem e_s_sv_wy (T : St) (v : Nat → Int32) : s_sv (u_wy T v) = s_sv T := rfl
theorem e_s_sv_wi (T : St) (v : Nat → Int32) : s_sv (u_wi T v) = s_sv T := rfl
theorem e_s_sv_ki (T : St) (v : Nat → Int32) : s_sv (u_ki T v) = s_sv T := rfl
theorem e_s_sv_so (T : St) (v : Nat → Int32) : s_sv (u_so T v) = s_sv T := rfl
theorem e_s_sv_li (T : St) (v : Nat → Int32) : s_sv (u_li T v) = s_sv T := rfl
theorem e_s_sv_ss (T : St) (v : Nat → Int32) : s_sv (u_ss T v) = s_sv T := rfl
theorem e_s_sv_sh (T : St) (v : Nat → Int32) : s_sv (u_sh T v) = s_sv T := rfl
theorem e_s_sv_sm (T : St) (v : Nat → Int32) : s_sv (u_sm T v) = s_sv T := rfl
theorem e_s_sv_le (T : St) (v : Nat → Int32) : s_sv (u_le T v) = s_sv T := rfl
theorem e_s_sv_bd (T : St) (v : Nat → Int32) : s_sv (u_bd T v) = s_sv T := rfl
theorem e_s_sv_du (T : St) (v : Nat → Int32) : s_sv (u_du T v) = s_sv T := rfl
theorem e_s_sv_wt (T : St) (v : Nat → Int32) : s_sv (u_wt T v) = s_sv T := rfl
theorem e_s_sv_co (T : St) (v : Nat → Int32) : s_sv (u_co T v) = s_sv T := rfl
theorem es_s_sv (T : St) (v : Nat → Int32) : s_sv (u_sv T v) = v := rfl
theorem uu_s_sv (T : St) (v w : Nat → Int32) : u_sv (u_sv T v) w = u_sv T w := rfl
theorem e_s_ss_st (T : St) (v : Int32) : s_ss (u_st T v) = s_ss T := rfl
theorem e_s_ss_va (T : St) (v : Int32) : s_ss (u_va T v) = s_ss T := rfl
theorem e_s_ss_sd (T : St) (v : Int32) : s_ss (u_sd T v) = s_ss T := rfl
theorem e_s_ss_bi (T : St) (v : Int32) : s_ss (u_bi T v) = s_ss T := rfl
theorem e_s_ss_wa (T : St) (v : Int32) : s_ss (u_wa T v) = s_ss T := rfl
theorem e_s_ss_he (T : St) (v : Int32) : s_ss (u_he T v) = s_ss T := rfl
theorem e_s_ss_bf (T : St) (v : Int32) : s_ss (u_bf T v) = s_ss T := rfl
theorem e_s_ss_bt (T : St) (v : Int32) : s_ss (u_bt T v) = s_ss T := rfl
theorem e_s_ss_cm (T : St) (v : Int32) : s_ss (u_cm T v) = s_ss T := rfl
theorem e_s_ss_cr (T : St) (v : Int32) : s_ss (u_cr T v) = s_ss T := rfl
theorem e_s_ss_sc (T : St) (v : Nat → Int32) : s_ss (u_sc T v) = s_ss T := rfl
theorem e_s_ss_wy (T : St) (v : Nat → Int32) : s_ss (u_wy T v) = s_ss T := rfl
theorem e_s_ss_wi (T : St) (v : Nat → Int32) : s_ss (u_wi T v) = s_ss T := rfl
theorem e_s_ss_ki (T : St) (v : Nat → Int32) : s_ss (u_ki T v) = s_ss T := rfl
theorem e_s_ss_so (T : St) (v : Nat → Int32) : s_ss (u_so T v) = s_ss T := rfl
theorem e_s_ss_li (T : St) (v : Nat → Int32) : s_ss (u_li T v) = s_ss T := rfl
theorem e_s_ss_sv (T : St) (v : Nat → Int32) : s_ss (u_sv T v) = s_ss T := rfl
theorem e_s_ss_sh (T : St) (v : Nat → Int32) : s_ss (u_sh T v) = s_ss T := rfl
theorem e_s_ss_sm (T : St) (v : Nat → Int32) : s_ss (u_sm T v) = s_ss T := rfl
theorem e_s_ss_le (T : St) (v : Nat → Int32) : s_ss (u_le T v) = s_ss T := rfl
theorem e_s_ss_bd (T : St) (v : Nat → Int32) : s_ss (u_bd T v) = s_ss T := rfl
theorem e_s_ss_du (T : St) (v : Nat → Int32) : s_ss (u_du T v) = s_ss T := rfl
theorem e_s_ss_wt (T : St) (v : Nat → Int32) : s_ss (u_wt T v) = s_ss T := rfl
theorem e_s_ss_co (T : St) (v : Nat → Int32) : s_ss (u_co T v) = s_ss T := rfl
theorem es_s_ss (T : St) (v : Nat → Int32) : s_ss (u_ss T v) = v := rfl
theorem uu_s_ss (T : St) (v w : Nat → Int32) : u_ss (u_ss T v) w = u_ss T w := rfl
theorem e_s_sh_st (T : St) (v : Int32) : s_sh (u_st T v) = s_sh T := rfl
theorem e_s_sh_va (T : St) (v : Int32) : s_sh (u_va T v) = s_sh T := rfl
theorem e_s_sh_sd (T : St) (v : Int32) : s_sh (u_sd T v) = s_sh T := rfl
theorem e_s_sh_bi (T : St) (v : Int32) : s_sh (u_bi T v) = s_sh T := rfl
theorem e_s_sh_wa (T : St) (v : Int32) : s_sh (u_wa T v) = s_sh T := rfl
theorem e_s_sh_he (T : St) (v : Int32) : s_sh (u_he T v) = s_sh T := rfl
theorem e_s_sh_bf (T : St) (v : Int32) : s_sh (u_bf T v) = s_sh T := rfl
theorem e_s_sh_bt (T : St) (v : Int32) : s_sh (u_bt T v) = s_sh T := rfl
theorem e_s_sh_cm (T : St) (v : Int32) : s_sh (u_cm T v) = s_sh T := rfl
theorem e_s_sh_cr (T : St) (v : Int32) : s_sh (u_cr T v) = s_sh T := rfl
theorem e_s_sh_sc (T : St) (v : Nat → Int32) : s_sh (u_sc T v) = s_sh T := rfl
theorem e_s_sh_wy (T : St) (v : Nat → Int32) : s_sh (u_wy T v) = s_sh T := rfl
theorem e_s_sh_wi (T : St) (v : Nat → Int32) : s_sh (u_wi T v) = s_sh T := rfl
theorem e_s_sh_ki (T : St) (v : Nat → Int32) : s_sh (u_ki T v) = s_sh T := rfl
theorem e_s_sh_so (T : St) (v : Nat → Int32) : s_sh (u_so T v) = s_sh T := rfl
theorem e_s_sh_li (T : St) (v : Nat → Int32) : s_sh (u_li T v) = s_sh T := rfl
theorem e_s_sh_sv (T : St) (v : Nat → Int32) : s_sh (u_sv T v) = s_sh T := rfl
theorem e_s_sh_ss (T : St) (v : Nat → Int32) : s_sh (u_ss T v) = s_sh T := rfl
theorem e_s_sh_sm (T : St) (v : Nat → Int32) : s_sh (u_sm T v) = s_sh T := rfl
theorem e_s_sh_le (T : St) (v : Nat → Int32) : s_sh (u_le T v) = s_sh T := rfl
theorem e_s_sh_bd (T : St) (v : Nat → Int32) : s_sh (u_bd T v) = s_sh T := rfl
theorem e_s_sh_du (T : St) (v : Nat → Int32) : s_sh (u_du T v) = s_sh T := rfl
theorem e_s_sh_wt (T : St) (v : Nat → Int32) : s_sh (u_wt T v) = s_sh T := rfl
theorem e_s_sh_co (T : St) (v : Nat → Int32) : s_sh (u_co T v) = s_sh T := rfl
theorem es_s_sh (T : St) (v : Nat → Int32) : s_sh (u_sh T v) = v := rfl
theorem uu_s_sh (T : St) (v w : Nat → Int32) : u_sh (u_sh T v) w = u_sh T w := rfl
theorem e_s_sm_st (T : St) (v : Int32) : s_sm (u_st T v) = s_sm T := rfl
theorem e_s_sm_va (T : St) (v : Int32) : s_sm (u_va T v) = s_sm T := rfl
theorem e_s_sm_sd (T : St) (v : Int32) : s_sm (u_sd T v) = s_sm T := rfl
theorem e_s_sm_bi (T : St) (v : Int32) : s_sm (u_bi T v) = s_sm T := rfl
theorem e_s_sm_wa (T : St) (v : Int32) : s_sm (u_wa T v) = s_sm T := rfl
theorem e_s_sm_he (T : St) (v : Int32) : s_sm (u_he T v) = s_sm T := rfl
theorem e_s_sm_bf (T : St) (v : Int32) : s_sm (u_bf T v) = s_sm T := rfl
theorem e_s_sm_bt (T : St) (v : Int32) : s_sm (u_bt T v) = s_sm T := rfl
theorem e_s_sm_cm (T : St) (v : Int32) : s_sm (u_cm T v) = s_sm T := rfl
theorem e_s_sm_cr (T : St) (v : Int32) : s_sm (u_cr T v) = s_sm T := rfl
theorem e_s_sm_sc (T : St) (v : Nat → Int32) : s_sm (u_sc T v) = s_sm T := rfl
theorem e_s_sm_wy (T : St) (v : Nat → Int32) : s_sm (u_wy T v) = s_sm T := rfl
theorem e_s_sm_wi (T : St) (v : Nat → Int32) : s_sm (u_wi T v) = s_sm T := rfl
theorem e_s_sm_ki (T : St) (v : Nat → Int32) : s_sm (u_ki T v) = s_sm T := rfl
theorem e_s_sm_so (T : St) (v : Nat → Int32) : s_sm (u_so T v) = s_sm T := rfl
theorem e_s_sm_li (T : St) (v : Nat → Int32) : s_sm (u_li T v) = s_sm T := rfl
theorem e_s_sm_sv (T : St) (v : Nat → Int32) : s_sm (u_sv T v) = s_sm T := rfl
theorem e_s_sm_ss (T : St) (v : Nat → Int32) : s_sm (u_ss T v) = s_sm T := rfl
theorem e_s_sm_sh (T : St) (v : Nat → Int32) : s_sm (u_sh T v) = s_sm T := rfl
theorem e_s_sm_le (T : St) (v : Nat → Int32) : s_sm (u_le T v) = s_sm T := rfl
theorem e_s_sm_bd (T : St) (v : Nat → Int32) : s_sm (u_bd T v) = s_sm T := rfl
theorem e_s_sm_du (T : St) (v : Nat → Int32) : s_sm (u_du T v) = s_sm T := rfl
theorem e_s_sm_wt (T : St) (v : Nat → Int32) : s_sm (u_wt T v) = s_sm T := rfl
theorem e_s_sm_co (T : St) (v : Nat → Int32) : s_sm (u_co T v) = s_sm T := rfl
theorem es_s_sm (T : St) (v : Nat → Int32) : s_sm (u_sm T v) = v := rfl
theorem uu_s_sm (T : St) (v w : Nat → Int32) : u_sm (u_sm T v) w = u_sm T w := rfl
theorem e_s_le_st (T : St) (v : Int32) : s_le (u_st T v) = s_le T := rfl
theorem e_s_le_va (T : St) (v : Int32) : s_le (u_va T v) = s_le T := rfl
theorem e_s_le_sd (T : St) (v : Int32) : s_le (u_sd T v) = s_le T := rfl
theorem e_s_le_bi (T : St) (v : Int32) : s_le (u_bi T v) = s_le T := rfl
theorem e_s_le_wa (T : St) (v : Int32) : s_le (u_wa T v) = s_le T := rfl
theorem e_s_le_he (T : St) (v : Int32) : s_le (u_he T v) = s_le T := rfl
theorem e_s_le_bf (T : St) (v : Int32) : s_le (u_bf T v) = s_le T := rfl
theorem e_s_le_bt (T : St) (v : Int32) : s_le (u_bt T v) = s_le T := rfl
theorem e_s_le_cm (T : St) (v : Int32) : s_le (u_cm T v) = s_le T := rfl
theorem e_s_le_cr (T : St) (v : Int32) : s_le (u_cr T v) = s_le T := rfl
theorem e_s_le_sc (T : St) (v : Nat → Int32) : s_le (u_sc T v) = s_le T := rfl
theorem e_s_le_wy (T : St) (v : Nat → Int32) : s_le (u_wy T v) = s_le T := rfl
theorem e_s_le_wi (T : St) (v : Nat → Int32) : s_le (u_wi T v) = s_le T := rfl
theorem e_s_le_ki (T : St) (v : Nat → Int32) : s_le (u_ki T v) = s_le T := rfl
theorem e_s_le_so (T : St) (v : Nat → Int32) : s_le (u_so T v) = s_le T := rfl
theorem e_s_le_li (T : St) (v : Nat → Int32) : s_le (u_li T v) = s_le T := rfl
theorem e_s_le_sv (T : St) (v : Nat → Int32) : s_le (u_sv T v) = s_le T := rfl
theorem e_s_le_ss (T : St) (v : Nat → Int32) : s_le (u_ss T v) = s_le T := rfl
theorem e_s_le_sh (T : St) (v : Nat → Int32) : s_le (u_sh T v) = s_le T := rfl
theorem e_s_le_sm (T : St) (v : Nat → Int32) : s_le (u_sm T v) = s_le T := rfl
theorem e_s_le_bd (T : St) (v : Nat → Int32) : s_le (u_bd T v) = s_le T := rfl
theorem e_s_le_du (T : St) (v : Nat → Int32) : s_le (u_du T v) = s_le T := rfl
theorem e_s_le_wt (T : St) (v : Nat → Int32) : s_le (u_wt T v) = s_le T := rfl
theorem e_s_le_co (T : St) (v : Nat → Int32) : s_le (u_co T v) = s_le T := rfl
theorem es_s_le (T : St) (v : Nat → Int32) : s_le (u_le T v) = v := rfl
theorem uu_s_le (T : St) (v w : Nat → Int32) : u_le (u_le T v) w = u_le T w := rfl
theorem e_s_bd_st (T : St) (v : Int32) : s_bd (u_st T v) = s_bd T := rfl
theorem e_s_bd_va (T : St) (v : Int32) : s_bd (u_va T v) = s_bd T := rfl
theorem e_s_bd_sd (T : St) (v : Int32) : s_bd (u_sd T v) = s_bd T := rfl
theorem e_s_bd_bi (T : St) (v : Int32) : s_bd (u_bi T v) = s_bd T := rfl
theorem e_s_bd_wa (T : St) (v : Int32) : s_bd (u_wa T v) = s_bd T := rfl
theorem e_s_bd_he (T : St) (v : Int32) : s_bd (u_he T v) = s_bd T := rfl
theorem e_s_bd_bf (T : St) (v : Int32) : s_bd (u_bf T v) = s_bd T := rfl
theorem e_s_bd_bt (T : St) (v : Int32) : s_bd (u_bt T v) = s_bd T := rfl
theorem e_s_bd_cm (T : St) (v : Int32) : s_bd (u_cm T v) = s_bd T := rfl
theorem e_s_bd_cr (T : St) (v : Int32) : s_bd (u_cr T v) = s_bd T := rfl
theorem e_s_bd_sc (T : St) (v : Nat → Int32) : s_bd (u_sc T v) = s_bd T := rfl
theorem e_s_bd_wy (T : St) (v : Nat → Int32) : s_bd (u_wy T v) = s_bd T := rfl
theorem e_s_bd_wi (T : St) (v : Nat → Int32) : s_bd (u_wi T v) = s_bd T := rfl
theorem e_s_bd_ki (T : St) (v : Nat → Int32) : s_bd (u_ki T v) = s_bd T := rfl
theorem e_s_bd_so (T : St) (v : Nat → Int32) : s_bd (u_so T v) = s_bd T := rfl
theorem e_s_bd_li (T : St) (v : Nat → Int32) : s_bd (u_li T v) = s_bd T := rfl
theorem e_s_bd_sv (T : St) (v : Nat → Int32) : s_bd (u_sv T v) = s_bd T := rfl
theorem e_s_bd_ss (T : St) (v : Nat → Int32) : s_bd (u_ss T v) = s_bd T := rfl
theorem e_s_bd_sh (T : St) (v : Nat → Int32) : s_bd (u_sh T v) = s_bd T := rfl
theorem e_s_bd_sm (T : St) (v : Nat → Int32) : s_bd (u_sm T v) = s_bd T := rfl
theorem e_s_bd_le (T : St) (v : Nat → Int32) : s_bd (u_le T v) = s_bd T := rfl
theorem e_s_bd_du (T : St) (v : Nat → Int32) : s_bd (u_du T v) = s_bd T := rfl
theorem e_s_bd_wt (T : St) (v : Nat → Int32) : s_bd (u_wt T v) = s_bd T := rfl
theorem e_s_bd_co (T : St) (v : Nat → Int32) : s_bd (u_co T v) = s_bd T := rfl
theorem es_s_bd (T : St) (v : Nat → Int32) : s_bd (u_bd T v) = v := rfl
theorem uu_s_bd (T : St) (v w : Nat → Int32) : u_bd (u_bd T v) w = u_bd T w := rfl
theorem e_s_du_st (T : St) (v : Int32) : s_du (u_st T v) = s_du T := rfl
theorem e_s_du_va (T : St) (v : Int32) : s_du (u_va T v) = s_du T := rfl
theorem e_s_du_sd (T : St) (v : Int32) : s_du (u_sd T v) = s_du T := rfl
theorem e_s_du_bi (T : St) (v : Int32) : s_du (u_bi T v) = s_du T := rfl
theorem e_s_du_wa (T : St) (v : Int32) : s_du (u_wa T v) = s_du T := rfl
theorem e_s_du_he (T : St) (v : Int32) : s_du (u_he T v) = s_du T := rfl
theorem e_s_du_bf (T : St) (v : Int32) : s_du (u_bf T v) = s_du T := rfl
theorem e_s_du_bt (T : St) (v : Int32) : s_du (u_bt T v) = s_du T := rfl
theorem e_s_du_cm (T : St) (v : Int32) : s_du (u_cm T v) = s_du T := rfl
theorem e_s_du_cr (T : St) (v : Int32) : s_du (u_cr T v) = s_du T := rfl
theorem e_s_du_sc (T : St) (v : Nat → Int32) : s_du (u_sc T v) = s_du T := rfl
theorem e_s_du_wy (T : St) (v : Nat → Int32) : s_du (u_wy T v) = s_du T := rfl
theorem e_s_du_wi (T : St) (v : Nat → Int32) : s_du (u_wi T v) = s_du T := rfl
theorem e_s_du_ki (T : St) (v : Nat → Int32) : s_du (u_ki T v) = s_du T := rfl
theorem e_s_du_so (T : St) (v : Nat → Int32) : s_du (u_so T v) = s_du T := rfl
theorem e_s_du_li (T : St) (v : Nat → Int32) : s_du (u_li T v) = s_du T := rfl
theorem e_s_du_sv (T : St) (v : Nat → Int32) : s_du (u_sv T v) = s_du T := rfl
theorem e_s_du_ss (T : St) (v : Nat → Int32) : s_du (u_ss T v) = s_du T := rfl
theorem e_s_du_sh (T : St) (v : Nat → Int32) : s_du (u_sh T v) = s_du T := rfl
theorem e_s_du_sm (T : St) (v : Nat → Int32) : s_du (u_sm T v) = s_du T := rfl
theorem e_s_du_le (T : St) (v : Nat → Int32) : s_du (u_le T v) = s_du T := rfl
theorem e_s_du_bd (T : St) (v : Nat → Int32) : s_du (u_bd T v) = s_du T := rfl
theorem e_s_du_wt (T : St) (v : Nat → Int32) : s_du (u_wt T v) = s_du T := rfl
theorem e_s_du_co (T : St) (v : Nat → Int32) : s_du (u_co T v) = s_du T := rfl
theorem es_s_du (T : St) (v : Nat → Int32) : s_du (u_du T v) = v := rfl
theorem uu_s_du (T : St) (v w : Nat → Int32) : u_du (u_du T v) w = u_du T w := rfl
theorem e_s_wt_st (T : St) (v : Int32) : s_wt (u_st T v) = s_wt T := rfl
theorem e_s_wt_va (T : St) (v : Int32) : s_wt (u_va T v) = s_wt T := rfl
theorem e_s_wt_sd (T : St) (v : Int32) : s_wt (u_sd T v) = s_wt T := rfl
theorem e_s_wt_bi (T : St) (v : Int32) : s_wt (u_bi T v) = s_wt T := rfl
theorem e_s_wt_wa (T : St) (v : Int32) : s_wt (u_wa T v) = s_wt T := rfl
theorem e_s_wt_he (T : St) (v : Int32) : s_wt (u_he T v) = s_wt T := rfl
theorem e_s_wt_bf (T : St) (v : Int32) : s_wt (u_bf T v) = s_wt T := rfl
theorem e_s_wt_bt (T : St) (v : Int32) : s_wt (u_bt T v) = s_wt T := rfl
theorem e_s_wt_cm (T : St) (v : Int32) : s_wt (u_cm T v) = s_wt T := rfl
theorem e_s_wt_cr (T : St) (v : Int32) : s_wt (u_cr T v) = s_wt T := rfl
theorem e_s_wt_sc (T : St) (v : Nat → Int32) : s_wt (u_sc T v) = s_wt T := rfl
theorem e_s_wt_wy (T : St) (v : Nat → Int32) : s_wt (u_wy T v) = s_wt T := rfl
theorem e_s_wt_wi (T : St) (v : Nat → Int32) : s_wt (u_wi T v) = s_wt T := rfl
theorem e_s_wt_ki (T : St) (v : Nat → Int32) : s_wt (u_ki T v) = s_wt T := rfl
theorem e_s_wt_so (T : St) (v : Nat → Int32) : s_wt (u_so T v) = s_wt T := rfl
theorem e_s_wt_li (T : St) (v : Nat → Int32) : s_wt (u_li T v) = s_wt T := rfl
theorem e_s_wt_sv (T : St) (v : Nat → Int32) : s_wt (u_sv T v) = s_wt T := rfl
theorem e_s_wt_ss (T : St) (v : Nat → Int32) : s_wt (u_ss T v) = s_wt T := rfl
theorem e_s_wt_sh (T : St) (v : Nat → Int32) : s_wt (u_sh T v) = s_wt T := rfl
theorem e_s_wt_sm (T : St) (v : Nat → Int32) : s_wt (u_sm T v) = s_wt T := rfl
theorem e_s_wt_le (T : St) (v : Nat → Int32) : s_wt (u_le T v) = s_wt T := rfl
theorem e_s_wt_bd (T : St) (v : Nat → Int32) : s_wt (u_bd T v) = s_wt T := rfl
theorem e_s_wt_du (T : St) (v : Nat → Int32) : s_wt (u_du T v) = s_wt T := rfl
theorem e_s_wt_co (T : St) (v : Nat → Int32) : s_wt (u_co T v) = s_wt T := rfl
theorem es_s_wt (T : St) (v : Nat → Int32) : s_wt (u_wt T v) = v := rfl
theorem uu_s_wt (T : St) (v w : Nat → Int32) : u_wt (u_wt T v) w = u_wt T w := rfl
theorem e_s_co_st (T : St) (v : Int32) : s_co (u_st T v) = s_co T := rfl
theorem e_s_co_va (T : St) (v : Int32) : s_co (u_va T v) = s_co T := rfl
theorem e_s_co_sd (T : St) (v : Int32) : s_co (u_sd T v) = s_co T := rfl
theorem e_s_co_bi (T : St) (v : Int32) : s_co (u_bi T v) = s_co T := rfl
theorem e_s_co_wa (T : St) (v : Int32) : s_co (u_wa T v) = s_co T := rfl
theorem e_s_co_he (T : St) (v : Int32) : s_co (u_he T v) = s_co T := rfl
theorem e_s_co_bf (T : St) (v : Int32) : s_co (u_bf T v) = s_co T := rfl
theorem e_s_co_bt (T : St) (v : Int32) : s_co (u_bt T v) = s_co T := rfl
theorem e_s_co_cm (T : St) (v : Int32) : s_co (u_cm T v) = s_co T := rfl
theorem e_s_co_cr (T : St) (v : Int32) : s_co (u_cr T v) = s_co T := rfl
theorem e_s_co_sc (T : St) (v : Nat → Int32) : s_co (u_sc T v) = s_co T := rfl
theorem e_s_co_wy (T : St) (v : Nat → Int32) : s_co (u_wy T v) = s_co T := rfl
theorem e_s_co_wi (T : St) (v : Nat → Int32) : s_co (u_wi T v) = s_co T := rfl
theorem e_s_co_ki (T : St) (v : Nat → Int32) : s_co (u_ki T v) = s_co T := rfl
theorem e_s_co_so (T : St) (v : Nat → Int32) : s_co (u_so T v) = s_co T := rfl
theorem e_s_co_li (T : St) (v : Nat → Int32) : s_co (u_li T v) = s_co T := rfl
theorem e_s_co_sv (T : St) (v : Nat → Int32) : s_co (u_sv T v) = s_co T := rfl
theorem e_s_co_ss (T : St) (v : Nat → Int32) : s_co (u_ss T v) = s_co T := rfl
theorem e_s_co_sh (T : St) (v : Nat → Int32) : s_co (u_sh T v) = s_co T := rfl
theorem e_s_co_sm (T : St) (v : Nat → Int32) : s_co (u_sm T v) = s_co T := rfl
theorem e_s_co_le (T : St) (v : Nat → Int32) : s_co (u_le T v) = s_co T := rfl
theorem e_s_co_bd (T : St) (v : Nat → Int32) : s_co (u_bd T v) = s_co T := rfl
theorem e_s_co_du (T : St) (v : Nat → Int32) : s_co (u_du T v) = s_co T := rfl
theorem e_s_co_wt (T : St) (v : Nat → Int32) : s_co (u_wt T v) = s_co T := rfl
theorem es_s_co (T : St) (v : Nat → Int32) : s_co (u_co T v) = v := rfl
theorem uu_s_co (T : St) (v w : Nat → Int32) : u_co (u_co T v) w = u_co T w := rfl
theorem e_x_tn_tk (T : XC) (v : Int32) : x_tn (v_tk T v) = x_tn T := rfl
theorem e_x_tn_tl (T : XC) (v : Int32) : x_tn (v_tl T v) = x_tn T := rfl
theorem e_x_tn_bn (T : XC) (v : Int32) : x_tn (v_bn T v) = x_tn T := rfl
theorem e_x_tn_bk (T : XC) (v : Int32) : x_tn (v_bk T v) = x_tn T := rfl
theorem e_x_tn_bl (T : XC) (v : Int32) : x_tn (v_bl T v) = x_tn T := rfl
theorem e_x_tn_ts (T : XC) (v : Nat → Int32) : x_tn (v_ts T v) = x_tn T := rfl
theorem e_x_tn_th (T : XC) (v : Nat → Int32) : x_tn (v_th T v) = x_tn T := rfl
theorem e_x_tn_bs (T : XC) (v : Nat → Int32) : x_tn (v_bs T v) = x_tn T := rfl
theorem e_x_tn_bh (T : XC) (v : Nat → Int32) : x_tn (v_bh T v) = x_tn T := rfl
theorem es_x_tn (T : XC) (v : Int32) : x_tn (v_tn T v) = v := rfl
theorem uu_x_tn (T : XC) (v w : Int32) : v_tn (v_tn T v) w = v_tn T w := rfl
theorem e_x_tk_tn (T : XC) (v : Int32) : x_tk (v_tn T v) = x_tk T := rfl
theorem e_x_tk_tl (T : XC) (v : Int32) : x_tk (v_tl T v) = x_tk T := rfl
theorem e_x_tk_bn (T : XC) (v : Int32) : x_tk (v_bn T v) = x_tk T := rfl
theorem e_x_tk_bk (T : XC) (v : Int32) : x_tk (v_bk T v) = x_tk T := rfl
theorem e_x_tk_bl (T : XC) (v : Int32) : x_tk (v_bl T v) = x_tk T := rfl
theorem e_x_tk_ts (T : XC) (v : Nat → Int32) : x_tk (v_ts T v) = x_tk T := rfl
theorem e_x_tk_th (T : XC) (v : Nat → Int32) : x_tk (v_th T v) = x_tk T := rfl
theorem e_x_tk_bs (T : XC) (v : Nat → Int32) : x_tk (v_bs T v) = x_tk T := rfl
theorem e_x_tk_bh (T : XC) (v : Nat → Int32) : x_tk (v_bh T v) = x_tk T := rfl
theorem es_x_tk (T : XC) (v : Int32) : x_tk (v_tk T v) = v := rfl
theorem uu_x_tk (T : XC) (v w : Int32) : v_tk (v_tk T v) w = v_tk T w := rfl
theorem e_x_tl_tn (T : XC) (v : Int32) : x_tl (v_tn T v) = x_tl T := rfl
theorem e_x_tl_tk (T : XC) (v : Int32) : x_tl (v_tk T v) = x_tl T := rfl
theorem e_x_tl_bn (T : XC) (v : Int32) : x_tl (v_bn T v) = x_tl T := rfl
theorem e_x_tl_bk (T : XC) (v : Int32) : x_tl (v_bk T v) = x_tl T := rfl
theorem e_x_tl_bl (T : XC) (v : Int32) : x_tl (v_bl T v) = x_tl T := rfl
theorem e_x_tl_ts (T : XC) (v : Nat → Int32) : x_tl (v_ts T v) = x_tl T := rfl
theorem e_x_tl_th (T : XC) (v : Nat → Int32) : x_tl (v_th T v) = x_tl T := rfl
theorem e_x_tl_bs (T : XC) (v : Nat → Int32) : x_tl (v_bs T v) = x_tl T := rfl
theorem e_x_tl_bh (T : XC) (v : Nat → Int32) : x_tl (v_bh T v) = x_tl T := rfl
theorem es_x_tl (T : XC) (v : Int32) : x_tl (v_tl T v) = v := rfl
theorem uu_x_tl (T : XC) (v w : Int32) : v_tl (v_tl T v) w = v_tl T w := rfl
theorem e_x_bn_tn (T : XC) (v : Int32) : x_bn (v_tn T v) = x_bn T := rfl
theorem e_x_bn_tk (T : XC) (v : Int32) : x_bn (v_tk T v) = x_bn T := rfl
theorem e_x_bn_tl (T : XC) (v : Int32) : x_bn (v_tl T v) = x_bn T := rfl
theorem e_x_bn_bk (T : XC) (v : Int32) : x_bn (v_bk T v) = x_bn T := rfl
theorem e_x_bn_bl (T : XC) (v : Int32) : x_bn (v_bl T v) = x_bn T := rfl
theorem e_x_bn_ts (T : XC) (v : Nat → Int32) : x_bn (v_ts T v) = x_bn T := rfl
theorem e_x_bn_th (T : XC) (v : Nat → Int32) : x_bn (v_th T v) = x_bn T := rfl
theorem e_x_bn_bs (T : XC) (v : Nat → Int32) : x_bn (v_bs T v) = x_bn T := rfl
theorem e_x_bn_bh (T : XC) (v : Nat → Int32) : x_bn (v_bh T v) = x_bn T := rfl
theorem es_x_bn (T : XC) (v : Int32) : x_bn (v_bn T v) = v := rfl
theorem uu_x_bn (T : XC) (v w : Int32) : v_bn (v_bn T v) w = v_bn T w := rfl
theorem e_x_bk_tn (T : XC) (v : Int32) : x_bk (v_tn T v) = x_bk T := rfl
theorem e_x_bk_tk (T : XC) (v : Int32) : x_bk (v_tk T v) = x_bk T := rfl
theorem e_x_bk_tl (T : XC) (v : Int32) : x_bk (v_tl T v) = x_bk T := rfl
theorem e_x_bk_bn (T : XC) (v : Int32) : x_bk (v_bn T v) = x_bk T := rfl
theorem e_x_bk_bl (T : XC) (v : Int32) : x_bk (v_bl T v) = x_bk T := rfl
theorem e_x_bk_ts (T : XC) (v : Nat → Int32) : x_bk (v_ts T v) = x_bk T := rfl
theorem e_x_bk_th (T : XC) (v : Nat → Int32) : x_bk (v_th T v) = x_bk T := rfl
theorem e_x_bk_bs (T : XC) (v : Nat → Int32) : x_bk (v_bs T v) = x_bk T := rfl
theorem e_x_bk_bh (T : XC) (v : Nat → Int32) : x_bk (v_bh T v) = x_bk T := rfl
theorem es_x_bk (T : XC) (v : Int32) : x_bk (v_bk T v) = v := rfl
theorem uu_x_bk (T : XC) (v w : Int32) : v_bk (v_bk T v) w = v_bk T w := rfl
theorem e_x_bl_tn (T : XC) (v : Int32) : x_bl (v_tn T v) = x_bl T := rfl
theorem e_x_bl_tk (T : XC) (v : Int32) : x_bl (v_tk T v) = x_bl T := rfl
theorem e_x_bl_tl (T : XC) (v : Int32) : x_bl (v_tl T v) = x_bl T := rfl
theorem e_x_bl_bn (T : XC) (v : Int32) : x_bl (v_bn T v) = x_bl T := rfl
theorem e_x_bl_bk (T : XC) (v : Int32) : x_bl (v_bk T v) = x_bl T := rfl
theorem e_x_bl_ts (T : XC) (v : Nat → Int32) : x_bl (v_ts T v) = x_bl T := rfl
theorem e_x_bl_th (T : XC) (v : Nat → Int32) : x_bl (v_th T v) = x_bl T := rfl
theorem e_x_bl_bs (T : XC) (v : Nat → Int32) : x_bl (v_bs T v) = x_bl T := rfl
theorem e_x_bl_bh (T : XC) (v : Nat → Int32) : x_bl (v_bh T v) = x_bl T := rfl
theorem es_x_bl (T : XC) (v : Int32) : x_bl (v_bl T v) = v := rfl
theorem uu_x_bl (T : XC) (v w : Int32) : v_bl (v_bl T v) w = v_bl T w := rfl
theorem e_x_ts_tn (T : XC) (v : Int32) : x_ts (v_tn T v) = x_ts T := rfl
theorem e_x_ts_tk (T : XC) (v : Int32) : x_ts (v_tk T v) = x_ts T := rfl
theorem e_x_ts_tl (T : XC) (v : Int32) : x_ts (v_tl T v) = x_ts T := rfl
theorem e_x_ts_bn (T : XC) (v : Int32) : x_ts (v_bn T v) = x_ts T := rfl
theorem e_x_ts_bk (T : XC) (v : Int32) : x_ts (v_bk T v) = x_ts T := rfl
theorem e_x_ts_bl (T : XC) (v : Int32) : x_ts (v_bl T v) = x_ts T := rfl
theorem e_x_ts_th (T : XC) (v : Nat → Int32) : x_ts (v_th T v) = x_ts T := rfl
theorem e_x_ts_bs (T : XC) (v : Nat → Int32) : x_ts (v_bs T v) = x_ts T := rfl
theorem e_x_ts_bh (T : XC) (v : Nat → Int32) : x_ts (v_bh T v) = x_ts T := rfl
theorem es_x_ts (T : XC) (v : Nat → Int32) : x_ts (v_ts T v) = v := rfl
theorem uu_x_ts (T : XC) (v w : Nat → Int32) : v_ts (v_ts T v) w = v_ts T w := rfl
theorem e_x_th_tn (T : XC) (v : Int32) : x_th (v_tn T v) = x_th T := rfl
theorem e_x_th_tk (T : XC) (v : Int32) : x_th (v_tk T v) = x_th T := rfl
theorem e_x_th_tl (T : XC) (v : Int32) : x_th (v_tl T v) = x_th T := rfl
theorem e_x_th_bn (T : XC) (v : Int32) : x_th (v_bn T v) = x_th T := rfl
theorem e_x_th_bk (T : XC) (v : Int32) : x_th (v_bk T v) = x_th T := rfl
theorem e_x_th_bl (T : XC) (v : Int32) : x_th (v_bl T v) = x_th T := rfl
theorem e_x_th_ts (T : XC) (v : Nat → Int32) : x_th (v_ts T v) = x_th T := rfl
theorem e_x_th_bs (T : XC) (v : Nat → Int32) : x_th (v_bs T v) = x_th T := rfl
theorem e_x_th_bh (T : XC) (v : Nat → Int32) : x_th (v_bh T v) = x_th T := rfl
theorem es_x_th (T : XC) (v : Nat → Int32) : x_th (v_th T v) = v := rfl
theorem uu_x_th (T : XC) (v w : Nat → Int32) : v_th (v_th T v) w = v_th T w := rfl
theorem e_x_bs_tn (T : XC) (v : Int32) : x_bs (v_tn T v) = x_bs T := rfl
theorem e_x_bs_tk (T : XC) (v : Int32) : x_bs (v_tk T v) = x_bs T := rfl
theorem e_x_bs_tl (T : XC) (v : Int32) : x_bs (v_tl T v) = x_bs T := rfl
theorem e_x_bs_bn (T : XC) (v : Int32) : x_bs (v_bn T v) = x_bs T := rfl
theorem e_x_bs_bk (T : XC) (v : Int32) : x_bs (v_bk T v) = x_bs T := rfl
theorem e_x_bs_bl (T : XC) (v : Int32) : x_bs (v_bl T v) = x_bs T := rfl
theorem e_x_bs_ts (T : XC) (v : Nat → Int32) : x_bs (v_ts T v) = x_bs T := rfl
theorem e_x_bs_th (T : XC) (v : Nat → Int32) : x_bs (v_th T v) = x_bs T := rfl
theorem e_x_bs_bh (T : XC) (v : Nat → Int32) : x_bs (v_bh T v) = x_bs T := rfl
theorem es_x_bs (T : XC) (v : Nat → Int32) : x_bs (v_bs T v) = v := rfl
theorem uu_x_bs (T : XC) (v w : Nat → Int32) : v_bs (v_bs T v) w = v_bs T w := rfl
theorem e_x_bh_tn (T : XC) (v : Int32) : x_bh (v_tn T v) = x_bh T := rfl
theorem e_x_bh_tk (T : XC) (v : Int32) : x_bh (v_tk T v) = x_bh T := rfl
theorem e_x_bh_tl (T : XC) (v : Int32) : x_bh (v_tl T v) = x_bh T := rfl
theorem e_x_bh_bn (T : XC) (v : Int32) : x_bh (v_bn T v) = x_bh T := rfl
theorem e_x_bh_bk (T : XC) (v : Int32) : x_bh (v_bk T v) = x_bh T := rfl
theorem e_x_bh_bl (T : XC) (v : Int32) : x_bh (v_bl T v) = x_bh T := rfl
theorem e_x_bh_ts (T : XC) (v : Nat → Int32) : x_bh (v_ts T v) = x_bh T := rfl
theorem e_x_bh_th (T : XC) (v : Nat → Int32) : x_bh (v_th T v) = x_bh T := rfl
theorem e_x_bh_bs (T : XC) (v : Nat → Int32) : x_bh (v_bs T v) = x_bh T := rfl
theorem es_x_bh (T : XC) (v : Nat → Int32) : x_bh (v_bh T v) = v := rfl
theorem uu_x_bh (T : XC) (v w : Nat → Int32) : v_bh (v_bh T v) w = v_bh T w := rfl
theorem e_y_bm_bl (T : YM) (v : Int32) : y_bm (z_bl T v) = y_bm T := rfl
theorem e_y_bm_bk (T : YM) (v : Int32) : y_bm (z_bk T v) = y_bm T := rfl
theorem e_y_bm_rs (T : YM) (v : Nat → Int32) : y_bm (z_rs T v) = y_bm T := rfl
theorem e_y_bm_rh (T : YM) (v : Nat → Int32) : y_bm (z_rh T v) = y_bm T := rfl
theorem e_y_bm_so (T : YM) (v : Nat → Int32) : y_bm (z_so T v) = y_bm T := rfl
theorem e_y_bm_ke (T : YM) (v : Nat → Int32) : y_bm (z_ke T v) = y_bm T := rfl
theorem e_y_bm_tr (T : YM) (v : Nat → Int32) : y_bm (z_tr T v) = y_bm T := rfl
theorem e_y_bm_bs (T : YM) (v : Nat → Int32) : y_bm (z_bs T v) = y_bm T := rfl
theorem e_y_bm_bh (T : YM) (v : Nat → Int32) : y_bm (z_bh T v) = y_bm T := rfl
theorem es_y_bm (T : YM) (v : Int32) : y_bm (z_bm T v) = v := rfl
theorem uu_y_bm (T : YM) (v w : Int32) : z_bm (z_bm T v) w = z_bm T w := rfl
theorem e_y_bl_bm (T : YM) (v : Int32) : y_bl (z_bm T v) = y_bl T := rfl
theorem e_y_bl_bk (T : YM) (v : Int32) : y_bl (z_bk T v) = y_bl T := rfl
theorem e_y_bl_rs (T : YM) (v : Nat → Int32) : y_bl (z_rs T v) = y_bl T := rfl
theorem e_y_bl_rh (T : YM) (v : Nat → Int32) : y_bl (z_rh T v) = y_bl T := rfl
theorem e_y_bl_so (T : YM) (v : Nat → Int32) : y_bl (z_so T v) = y_bl T := rfl
theorem e_y_bl_ke (T : YM) (v : Nat → Int32) : y_bl (z_ke T v) = y_bl T := rfl
theorem e_y_bl_tr (T : YM) (v : Nat → Int32) : y_bl (z_tr T v) = y_bl T := rfl
theorem e_y_bl_bs (T : YM) (v : Nat → Int32) : y_bl (z_bs T v) = y_bl T := rfl
theorem e_y_bl_bh (T : YM) (v : Nat → Int32) : y_bl (z_bh T v) = y_bl T := rfl
theorem es_y_bl (T : YM) (v : Int32) : y_bl (z_bl T v) = v := rfl
theorem uu_y_bl (T : YM) (v w : Int32) : z_bl (z_bl T v) w = z_bl T w := rfl
theorem e_y_bk_bm (T : YM) (v : Int32) : y_bk (z_bm T v) = y_bk T := rfl
theorem e_y_bk_bl (T : YM) (v : Int32) : y_bk (z_bl T v) = y_bk T := rfl
theorem e_y_bk_rs (T : YM) (v : Nat → Int32) : y_bk (z_rs T v) = y_bk T := rfl
theorem e_y_bk_rh (T : YM) (v : Nat → Int32) : y_bk (z_rh T v) = y_bk T := rfl
theorem e_y_bk_so (T : YM) (v : Nat → Int32) : y_bk (z_so T v) = y_bk T := rfl
theorem e_y_bk_ke (T : YM) (v : Nat → Int32) : y_bk (z_ke T v) = y_bk T := rfl
theorem e_y_bk_tr (T : YM) (v : Nat → Int32) : y_bk (z_tr T v) = y_bk T := rfl
theorem e_y_bk_bs (T : YM) (v : Nat → Int32) : y_bk (z_bs T v) = y_bk T := rfl
theorem e_y_bk_bh (T : YM) (v : Nat → Int32) : y_bk (z_bh T v) = y_bk T := rfl
theorem es_y_bk (T : YM) (v : Int32) : y_bk (z_bk T v) = v := rfl
theorem uu_y_bk (T : YM) (v w : Int32) : z_bk (z_bk T v) w = z_bk T w := rfl
theorem e_y_rs_bm (T : YM) (v : Int32) : y_rs (z_bm T v) = y_rs T := rfl
theorem e_y_rs_bl (T : YM) (v : Int32) : y_rs (z_bl T v) = y_rs T := rfl
theorem e_y_rs_bk (T : YM) (v : Int32) : y_rs (z_bk T v) = y_rs T := rfl
theorem e_y_rs_rh (T : YM) (v : Nat → Int32) : y_rs (z_rh T v) = y_rs T := rfl
theorem e_y_rs_so (T : YM) (v : Nat → Int32) : y_rs (z_so T v) = y_rs T := rfl
theorem e_y_rs_ke (T : YM) (v : Nat → Int32) : y_rs (z_ke T v) = y_rs T := rfl
theorem e_y_rs_tr (T : YM) (v : Nat → Int32) : y_rs (z_tr T v) = y_rs T := rfl
theorem e_y_rs_bs (T : YM) (v : Nat → Int32) : y_rs (z_bs T v) = y_rs T := rfl
theorem e_y_rs_bh (T : YM) (v : Nat → Int32) : y_rs (z_bh T v) = y_rs T := rfl
theorem es_y_rs (T : YM) (v : Nat → Int32) : y_rs (z_rs T v) = v := rfl
theorem uu_y_rs (T : YM) (v w : Nat → Int32) : z_rs (z_rs T v) w = z_rs T w := rfl
theorem e_y_rh_bm (T : YM) (v : Int32) : y_rh (z_bm T v) = y_rh T := rfl
theorem e_y_rh_bl (T : YM) (v : Int32) : y_rh (z_bl T v) = y_rh T := rfl
theorem e_y_rh_bk (T : YM) (v : Int32) : y_rh (z_bk T v) = y_rh T := rfl
theorem e_y_rh_rs (T : YM) (v : Nat → Int32) : y_rh (z_rs T v) = y_rh T := rfl
theorem e_y_rh_so (T : YM) (v : Nat → Int32) : y_rh (z_so T v) = y_rh T := rfl
theorem e_y_rh_ke (T : YM) (v : Nat → Int32) : y_rh (z_ke T v) = y_rh T := rfl
theorem e_y_rh_tr (T : YM) (v : Nat → Int32) : y_rh (z_tr T v) = y_rh T := rfl
theorem e_y_rh_bs (T : YM) (v : Nat → Int32) : y_rh (z_bs T v) = y_rh T := rfl
theorem e_y_rh_bh (T : YM) (v : Nat → Int32) : y_rh (z_bh T v) = y_rh T := rfl
theorem es_y_rh (T : YM) (v : Nat → Int32) : y_rh (z_rh T v) = v := rfl
theorem uu_y_rh (T : YM) (v w : Nat → Int32) : z_rh (z_rh T v) w = z_rh T w := rfl
theorem e_y_so_bm (T : YM) (v : Int32) : y_so (z_bm T v) = y_so T := rfl
theorem e_y_so_bl (T : YM) (v : Int32) : y_so (z_bl T v) = y_so T := rfl
theorem e_y_so_bk (T : YM) (v : Int32) : y_so (z_bk T v) = y_so T := rfl
theorem e_y_so_rs (T : YM) (v : Nat → Int32) : y_so (z_rs T v) = y_so T := rfl
theorem e_y_so_rh (T : YM) (v : Nat → Int32) : y_so (z_rh T v) = y_so T := rfl
theorem e_y_so_ke (T : YM) (v : Nat → Int32) : y_so (z_ke T v) = y_so T := rfl
theorem e_y_so_tr (T : YM) (v : Nat → Int32) : y_so (z_tr T v) = y_so T := rfl
theorem e_y_so_bs (T : YM) (v : Nat → Int32) : y_so (z_bs T v) = y_so T := rfl
theorem e_y_so_bh (T : YM) (v : Nat → Int32) : y_so (z_bh T v) = y_so T := rfl
theorem es_y_so (T : YM) (v : Nat → Int32) : y_so (z_so T v) = v := rfl
theorem uu_y_so (T : YM) (v w : Nat → Int32) : z_so (z_so T v) w = z_so T w := rfl
theorem e_y_ke_bm (T : YM) (v : Int32) : y_ke (z_bm T v) = y_ke T := rfl
theorem e_y_ke_bl (T : YM) (v : Int32) : y_ke (z_bl T v) = y_ke T := rfl
theorem e_y_ke_bk (T : YM) (v : Int32) : y_ke (z_bk T v) = y_ke T := rfl
theorem e_y_ke_rs (T : YM) (v : Nat → Int32) : y_ke (z_rs T v) = y_ke T := rfl
theorem e_y_ke_rh (T : YM) (v : Nat → Int32) : y_ke (z_rh T v) = y_ke T := rfl
theorem e_y_ke_so (T : YM) (v : Nat → Int32) : y_ke (z_so T v) = y_ke T := rfl
theorem e_y_ke_tr (T : YM) (v : Nat → Int32) : y_ke (z_tr T v) = y_ke T := rfl
theorem e_y_ke_bs (T : YM) (v : Nat → Int32) : y_ke (z_bs T v) = y_ke T := rfl
theorem e_y_ke_bh (T : YM) (v : Nat → Int32) : y_ke (z_bh T v) = y_ke T := rfl
theorem es_y_ke (T : YM) (v : Nat → Int32) : y_ke (z_ke T v) = v := rfl
theorem uu_y_ke (T : YM) (v w : Nat → Int32) : z_ke (z_ke T v) w = z_ke T w := rfl
theorem e_y_tr_bm (T : YM) (v : Int32) : y_tr (z_bm T v) = y_tr T := rfl
theorem e_y_tr_bl (T : YM) (v : Int32) : y_tr (z_bl T v) = y_tr T := rfl
theorem e_y_tr_bk (T : YM) (v : Int32) : y_tr (z_bk T v) = y_tr T := rfl
theorem e_y_tr_rs (T : YM) (v : Nat → Int32) : y_tr (z_rs T v) = y_tr T := rfl
theorem e_y_tr_rh (T : YM) (v : Nat → Int32) : y_tr (z_rh T v) = y_tr T := rfl
theorem e_y_tr_so (T : YM) (v : Nat → Int32) : y_tr (z_so T v) = y_tr T := rfl
theorem e_y_tr_ke (T : YM) (v : Nat → Int32) : y_tr (z_ke T v) = y_tr T := rfl
theorem e_y_tr_bs (T : YM) (v : Nat → Int32) : y_tr (z_bs T v) = y_tr T := rfl
theorem e_y_tr_bh (T : YM) (v : Nat → Int32) : y_tr (z_bh T v) = y_tr T := rfl
theorem es_y_tr (T : YM) (v : Nat → Int32) : y_tr (z_tr T v) = v := rfl
theorem uu_y_tr (T : YM) (v w : Nat → Int32) : z_tr (z_tr T v) w = z_tr T w := rfl
theorem e_y_bs_bm (T : YM) (v : Int32) : y_bs (z_bm T v) = y_bs T := rfl
theorem e_y_bs_bl (T : YM) (v : Int32) : y_bs (z_bl T v) = y_bs T := rfl
theorem e_y_bs_bk (T : YM) (v : Int32) : y_bs (z_bk T v) = y_bs T := rfl
theorem e_y_bs_rs (T : YM) (v : Nat → Int32) : y_bs (z_rs T v) = y_bs T := rfl
theorem e_y_bs_rh (T : YM) (v : Nat → Int32) : y_bs (z_rh T v) = y_bs T := rfl
theorem e_y_bs_so (T : YM) (v : Nat → Int32) : y_bs (z_so T v) = y_bs T := rfl
theorem e_y_bs_ke (T : YM) (v : Nat → Int32) : y_bs (z_ke T v) = y_bs T := rfl
theorem e_y_bs_tr (T : YM) (v : Nat → Int32) : y_bs (z_tr T v) = y_bs T := rfl
theorem e_y_bs_bh (T : YM) (v : Nat → Int32) : y_bs (z_bh T v) = y_bs T := rfl
theorem es_y_bs (T : YM) (v : Nat → Int32) : y_bs (z_bs T v) = v := rfl
theorem uu_y_bs (T : YM) (v w : Nat → Int32) : z_bs (z_bs T v) w = z_bs T w := rfl
theorem e_y_bh_bm (T : YM) (v : Int32) : y_bh (z_bm T v) = y_bh T := rfl
theorem e_y_bh_bl (T : YM) (v : Int32) : y_bh (z_bl T v) = y_bh T := rfl
theorem e_y_bh_bk (T : YM) (v : Int32) : y_bh (z_bk T v) = y_bh T := rfl
theorem e_y_bh_rs (T : YM) (v : Nat → Int32) : y_bh (z_rs T v) = y_bh T := rfl
theorem e_y_bh_rh (T : YM) (v : Nat → Int32) : y_bh (z_rh T v) = y_bh T := rfl
theorem e_y_bh_so (T : YM) (v : Nat → Int32) : y_bh (z_so T v) = y_bh T := rfl
theorem e_y_bh_ke (T : YM) (v : Nat → Int32) : y_bh (z_ke T v) = y_bh T := rfl
theorem e_y_bh_tr (T : YM) (v : Nat → Int32) : y_bh (z_tr T v) = y_bh T := rfl
theorem e_y_bh_bs (T : YM) (v : Nat → Int32) : y_bh (z_bs T v) = y_bh T := rfl
theorem es_y_bh (T : YM) (v : Nat → Int32) : y_bh (z_bh T v) = v := rfl
theorem uu_y_bh (T : YM) (v w : Nat → Int32) : z_bh (z_bh T v) w = z_bh T w := rfl
theorem lv_topc {p : Program} {l : Launch} {e : Env} {R : Room} {s : State} {m : MethodId} {args : Array Value} {below : List Frame} {meth : Method} {c : Code} {H : Heap} {locs : List Loc} {cells slots : Nat} {Q : State → Prop} {pc : Nat} {ls : Array Slot} {rest : List Value} {x y : Int32} (h : x = y) (k : W p l e R s m args below meth c H locs cells slots Q (F0 m pc ls (.int y :: rest))) : W p l e R s m args below meth c H locs cells slots Q (F0 m pc ls (.int x :: rest)) := h ▸ k
end
section
set_option maxHeartbeats 4000000 in
set_option maxRecDepth 100000 in
theorem c_X8_isWithin (l : Launch) (Z : ZT) (q : Nat → Nat) (S : St) (X : XC) (p1 p2 : Int32) : CT l Z yX8_isWithin cX8_isWithin 2 (some .boolean) 1 [.int (p1), .int (p2)] (CW Z q S X) (some (.int (b01 (inr p1 0 p2)))) (CW Z q S X) := by
  refine CE.mk rfl (Nat.le_of_ble_eq_true rfl) (fun p e s m args below meth c A Qx ls E hr hlk hnm hQ G hl => ?_)
  have hx := E.1.1
  have hb := E.1.2.1
  have hl : lv_has ls 2 [(0, .int (p1)), (1, .int (p2))] := hl
  refine lv_iload_n hx hb dX8_isWithin_0 rfl (lv_at hl 0 rfl) ?_
  refine lv_if_lt (tgt := 13) hx hb dX8_isWithin_1 (by decide) (fun c_1 => ?_) (fun c_1 => ?_)
  · skip
    have c_1n := Int32.not_le.mpr c_1
    refine lv_iconst (v := 0) hx hb dX8_isWithin_13 (by decide) ?_
    have hs : (inr p1 0 p2) = false := by first | rfl | (simp [inr, c_1, c_1n]; done) | (simp_all [inr]; done)
    exact r_retz E G hr hlk hQ (by decide) (congrArg (fun t => some (Value.int (b01 t))) hs) rfl dX8_isWithin_14
  · skip
    have c_1n := Int32.not_lt.mp c_1
    refine lv_iload_n hx hb dX8_isWithin_4 rfl (lv_at hl 0 rfl) ?_
    refine lv_iload_n hx hb dX8_isWithin_5 rfl (lv_at hl 1 rfl) ?_
    refine lv_icmp_gt (tgt := 13) hx hb dX8_isWithin_6 (by decide) (fun c_6 => ?_) (fun c_6 => ?_)
    · skip
      have c_6n := Int32.not_le.mpr c_6
      refine lv_iconst (v := 0) hx hb dX8_isWithin_13 (by decide) ?_
      have hs : (inr p1 0 p2) = false := by first | rfl | (simp [inr, c_1, c_1n, c_6, c_6n]; done) | (simp_all [inr]; done)
      exact r_retz E G hr hlk hQ (by decide) (congrArg (fun t => some (Value.int (b01 t))) hs) rfl dX8_isWithin_14
    · skip
      have c_6n := Int32.not_lt.mp c_6
      refine lv_iconst (v := 1) hx hb dX8_isWithin_9 (by decide) ?_
      refine lv_goto (tgt := 14) hx hb dX8_isWithin_10 (by decide) ?_
      have hs : (inr p1 0 p2) = true := by first | rfl | (simp [inr, c_1, c_1n, c_6, c_6n]; done) | (simp_all [inr]; done)
      exact r_retz E G hr hlk hQ (by decide) (congrArg (fun t => some (Value.int (b01 t))) hs) rfl dX8_isWithin_14
set_option maxHeartbeats 4000000 in
set_option maxRecDepth 100000 in
theorem c_X8_isHour (l : Launch) (Z : ZT) (q : Nat → Nat) (S : St) (X : XC) (p1 : Int32) : CT l Z yX8_isHour cX8_isHour 1 (some .boolean) 1 [.int (p1)] (CW Z q S X) (some (.int (b01 (isHo p1)))) (CW Z q S X) := by
  refine CE.mk rfl (Nat.le_of_ble_eq_true rfl) (fun p e s m args below meth c A Qx ls E hr hlk hnm hQ G hl => ?_)
  have hx := E.1.1
  have hb := E.1.2.1
  have hl : lv_has ls 1 [(0, .int (p1))] := hl
  refine lv_iload_n hx hb dX8_isHour_0 rfl (lv_at hl 0 rfl) ?_
  refine lv_if_lt (tgt := 14) hx hb dX8_isHour_1 (by decide) (fun c_1 => ?_) (fun c_1 => ?_)
  · skip
    have c_1n := Int32.not_le.mpr c_1
    refine lv_iconst (v := 0) hx hb dX8_isHour_14 (by decide) ?_
    have hs : (isHo p1) = false := by first | rfl | (simp [isHo, inr, le11, c_1, c_1n]; done) | (simp_all [isHo, inr, le11]; done)
    exact r_retz E G hr hlk hQ (by decide) (congrArg (fun t => some (Value.int (b01 t))) hs) rfl dX8_isHour_15
  · skip
    have c_1n := Int32.not_lt.mp c_1
    refine lv_iload_n hx hb dX8_isHour_4 rfl (lv_at hl 0 rfl) ?_
    refine lv_bipush (v := 12) hx hb dX8_isHour_5 (by decide) ?_
    refine lv_icmp_ge (tgt := 14) hx hb dX8_isHour_7 (by decide) (fun c_7 => ?_) (fun c_7 => ?_)
    · skip
      have c_7n := Int32.not_lt.mpr c_7
      refine lv_iconst (v := 0) hx hb dX8_isHour_14 (by decide) ?_
      have hs : (isHo p1) = false := by first | rfl | (simp [isHo, inr, le11, c_1, c_1n, c_7, c_7n]; done) | (simp_all [isHo, inr, le11]; done)
      exact r_retz E G hr hlk hQ (by decide) (congrArg (fun t => some (Value.int (b01 t))) hs) rfl dX8_isHour_15
    · skip
      have c_7n := Int32.not_le.mp c_7
      refine lv_iconst (v := 1) hx hb dX8_isHour_10 (by decide) ?_
      refine lv_goto (tgt := 15) hx hb dX8_isHour_11 (by decide) ?_
      have hs : (isHo p1) = true := by first | rfl | (simp [isHo, inr, le11, c_1, c_1n, c_7, c_7n]; done) | (simp_all [isHo, inr, le11]; done)
      exact r_retz E G hr hlk hQ (by decide) (congrArg (fun t => some (Value.int (b01 t))) hs) rfl dX8_isHour_15
set_option maxHeartbeats 4000000 in
set_option maxRecDepth 100000 in
theorem c_X8_streetOf (l : Launch) (Z : ZT) (q : Nat → Nat) (S : St) (X : XC) (p1 : Int32) : CT l Z yX8_streetOf cX8_streetOf 1 (some .int) 1 [.int (p1)] (CW Z q S X) (some (.int (p1 / 100))) (CW Z q S X) := by
  refine CE.mk rfl (Nat.le_of_ble_eq_true rfl) (fun p e s m args below meth c A Qx ls E hr hlk hnm hQ G hl => ?_)
  have hx := E.1.1
  have hb := E.1.2.1
  have hl : lv_has ls 1 [(0, .int (p1))] := hl
  refine lv_iload_n hx hb dX8_streetOf_0 rfl (lv_at hl 0 rfl) ?_
  refine lv_bipush (v := 100) hx hb dX8_streetOf_1 (by decide) ?_
  refine lv_idiv hx hb dX8_streetOf_3 (by decide) ?_
  have hs : (p1 / 100) = p1 / 100 := rfl
  exact r_ret E G hr hlk hQ (congrArg (fun t => some (Value.int t)) hs) rfl dX8_streetOf_4
set_option maxHeartbeats 4000000 in
set_option maxRecDepth 100000 in
theorem c_X8_hourOf (l : Launch) (Z : ZT) (q : Nat → Nat) (S : St) (X : XC) (p1 : Int32) : CT l Z yX8_hourOf cX8_hourOf 1 (some .int) 1 [.int (p1)] (CW Z q S X) (some (.int (ho p1))) (CW Z q S X) := by
  refine CE.mk rfl (Nat.le_of_ble_eq_true rfl) (fun p e s m args below meth c A Qx ls E hr hlk hnm hQ G hl => ?_)
  have hx := E.1.1
  have hb := E.1.2.1
  have hl : lv_has ls 1 [(0, .int (p1))] := hl
  refine lv_iload_n hx hb dX8_hourOf_0 rfl (lv_at hl 0 rfl) ?_
  refine lv_bipush (v := 100) hx hb dX8_hourOf_1 (by decide) ?_
  refine lv_irem hx hb dX8_hourOf_3 (by decide) ?_
  have hs : (ho p1) = p1 - p1 / 100 * 100 := rfl
  exact r_ret E G hr hlk hQ (congrArg (fun t => some (Value.int t)) hs) rfl dX8_hourOf_4
set_option maxHeartbeats 4000000 in
set_option maxRecDepth 100000 in
theorem c_X8_isKind (l : Launch) (Z : ZT) (q : Nat → Nat) (S : St) (X : XC) (p1 : Int32) : CT l Z yX8_isKind cX8_isKind 1 (some .boolean) 1 [.int (p1)] (CW Z q S X) (some (.int (b01 (isKi p1)))) (CW Z q S X) := by
  refine CE.mk rfl (Nat.le_of_ble_eq_true rfl) (fun p e s m args below meth c A Qx ls E hr hlk hnm hQ G hl => ?_)
  have hx := E.1.1
  have hb := E.1.2.1
  have hl : lv_has ls 1 [(0, .int (p1))] := hl
  refine lv_iload_n hx hb dX8_isKind_0 rfl (lv_at hl 0 rfl) ?_
  refine lv_if_eq (tgt := 14) hx hb dX8_isKind_1 (by decide) (fun c_1 => ?_) (fun c_1 => ?_)
  · skip
    refine lv_iconst (v := 1) hx hb dX8_isKind_14 (by decide) ?_
    refine lv_goto (tgt := 19) hx hb dX8_isKind_15 (by decide) ?_
    have hs : (isKi p1) = true := by first | rfl | (simp [ki_or, c_1]; done) | (simp_all [ki_or]; done)
    exact r_retz E G hr hlk hQ (by decide) (congrArg (fun t => some (Value.int (b01 t))) hs) rfl dX8_isKind_19
  · skip
    refine lv_iload_n hx hb dX8_isKind_4 rfl (lv_at hl 0 rfl) ?_
    refine lv_iconst (v := 1) hx hb dX8_isKind_5 (by decide) ?_
    refine lv_icmp_eq (tgt := 14) hx hb dX8_isKind_6 (by decide) (fun c_6 => ?_) (fun c_6 => ?_)
    · skip
      refine lv_iconst (v := 1) hx hb dX8_isKind_14 (by decide) ?_
      refine lv_goto (tgt := 19) hx hb dX8_isKind_15 (by decide) ?_
      have hs : (isKi p1) = true := by first | rfl | (simp [ki_or, c_1, c_6]; done) | (simp_all [ki_or]; done)
      exact r_retz E G hr hlk hQ (by decide) (congrArg (fun t => some (Value.int (b01 t))) hs) rfl dX8_isKind_19
    · skip
      refine lv_iload_n hx hb dX8_isKind_9 rfl (lv_at hl 0 rfl) ?_
      refine lv_iconst (v := 2) hx hb dX8_isKind_10 (by decide) ?_
      refine lv_icmp_ne (tgt := 18) hx hb dX8_isKind_11 (by decide) (fun c_11 => ?_) (fun c_11 => ?_)
      · skip
        refine lv_iconst (v := 0) hx hb dX8_isKind_18 (by decide) ?_
        have hs : (isKi p1) = false := by first | rfl | (simp [ki_or, c_1, c_6, c_11]; done) | (simp_all [ki_or]; done)
        exact r_retz E G hr hlk hQ (by decide) (congrArg (fun t => some (Value.int (b01 t))) hs) rfl dX8_isKind_19
      · skip
        refine lv_iconst (v := 1) hx hb dX8_isKind_14 (by decide) ?_
        refine lv_goto (tgt := 19) hx hb dX8_isKind_15 (by decide) ?_
        have hs : (isKi p1) = true := by first | rfl | (simp [ki_or, c_1, c_6, c_11]; done) | (simp_all [ki_or]; done)
        exact r_retz E G hr hlk hQ (by decide) (congrArg (fun t => some (Value.int (b01 t))) hs) rfl dX8_isKind_19
set_option maxHeartbeats 4000000 in
set_option maxRecDepth 100000 in
theorem c_X5_has (l : Launch) (Z : ZT) (q : Nat → Nat) (S : St) (X : XC) (p1 : Int32) : CT l Z yX5_has cX5_has 2 (some .boolean) 1 [.ref (q 2), .int (p1)] (CW Z q S X) (some (.int (b01 (isSt S p1)))) (CW Z q S X) := by
  refine CE.mk rfl (Nat.le_of_ble_eq_true rfl) (fun p e s m args below meth c A Qx ls E hr hlk hnm hQ G hl => ?_)
  have hx := E.1.1
  have hb := E.1.2.1
  have hl : lv_has ls 2 [(0, .ref (q 2)), (1, .int (p1))] := hl
  refine lv_iload_n hx hb dX5_has_0 rfl (lv_at hl 1 rfl) ?_
  refine lv_if_lt (tgt := 16) hx hb dX5_has_1 (by decide) (fun c_1 => ?_) (fun c_1 => ?_)
  · skip
    have c_1n := Int32.not_le.mpr c_1
    refine lv_iconst (v := 0) hx hb dX5_has_16 (by decide) ?_
    have hs : (isSt S p1) = false := by first | rfl | (simp [isSt, c_1, c_1n]; done) | (simp_all [isSt]; done)
    exact r_retz E G hr hlk hQ (by decide) (congrArg (fun t => some (Value.int (b01 t))) hs) rfl dX5_has_17
  · skip
    have c_1n := Int32.not_lt.mp c_1
    refine lv_iload_n hx hb dX5_has_4 rfl (lv_at hl 1 rfl) ?_
    refine lv_aload_n hx hb dX5_has_5 rfl (lv_at hl 0 rfl) ?_
    refine gC_2_3 E G m_71 dX5_has_6 ?_
    refine lv_icmp_ge (tgt := 16) hx hb dX5_has_9 (by decide) (fun c_9 => ?_) (fun c_9 => ?_)
    · skip
      have c_9n := Int32.not_lt.mpr c_9
      refine lv_iconst (v := 0) hx hb dX5_has_16 (by decide) ?_
      have hs : (isSt S p1) = false := by first | rfl | (simp [isSt, c_1, c_1n, c_9, c_9n]; done) | (simp_all [isSt]; done)
      exact r_retz E G hr hlk hQ (by decide) (congrArg (fun t => some (Value.int (b01 t))) hs) rfl dX5_has_17
    · skip
      have c_9n := Int32.not_le.mp c_9
      refine lv_iconst (v := 1) hx hb dX5_has_12 (by decide) ?_
      refine lv_goto (tgt := 17) hx hb dX5_has_13 (by decide) ?_
      have hs : (isSt S p1) = true := by first | rfl | (simp [isSt, c_1, c_1n, c_9, c_9n]; done) | (simp_all [isSt]; done)
      exact r_retz E G hr hlk hQ (by decide) (congrArg (fun t => some (Value.int (b01 t))) hs) rfl dX5_has_17
set_option maxHeartbeats 4000000 in
set_option maxRecDepth 100000 in
theorem c_X5_isFull (l : Launch) (Z : ZT) (q : Nat → Nat) (S : St) (X : XC) : CT l Z yX5_isFull cX5_isFull 1 (some .boolean) 1 [.ref (q 2)] (CW Z q S X) (some (.int (b01 (decide (6 ≤ s_st S))))) (CW Z q S X) := by
  refine CE.mk rfl (Nat.le_of_ble_eq_true rfl) (fun p e s m args below meth c A Qx ls E hr hlk hnm hQ G hl => ?_)
  have hx := E.1.1
  have hb := E.1.2.1
  have hl : lv_has ls 1 [(0, .ref (q 2))] := hl
  refine lv_aload_n hx hb dX5_isFull_0 rfl (lv_at hl 0 rfl) ?_
  refine gC_2_3 E G m_71 dX5_isFull_1 ?_
  refine lv_bipush (v := 6) hx hb dX5_isFull_4 (by decide) ?_
  refine lv_icmp_lt (tgt := 13) hx hb dX5_isFull_6 (by decide) (fun c_6 => ?_) (fun c_6 => ?_)
  · skip
    have c_6n := Int32.not_le.mpr c_6
    refine lv_iconst (v := 0) hx hb dX5_isFull_13 (by decide) ?_
    have hs : (decide (6 ≤ s_st S)) = false := by first | rfl | (simp [c_6, c_6n]; done) | (simp_all []; done)
    exact r_retz E G hr hlk hQ (by decide) (congrArg (fun t => some (Value.int (b01 t))) hs) rfl dX5_isFull_14
  · skip
    have c_6n := Int32.not_lt.mp c_6
    refine lv_iconst (v := 1) hx hb dX5_isFull_9 (by decide) ?_
    refine lv_goto (tgt := 14) hx hb dX5_isFull_10 (by decide) ?_
    have hs : (decide (6 ≤ s_st S)) = true := by first | rfl | (simp [c_6, c_6n]; done) | (simp_all []; done)
    exact r_retz E G hr hlk hQ (by decide) (congrArg (fun t => some (Value.int (b01 t))) hs) rfl dX5_isFull_14
set_option maxHeartbeats 4000000 in
set_option maxRecDepth 100000 in
theorem c_X5_wayBetween (l : Launch) (Z : ZT) (q : Nat → Nat) (S : St) (X : XC) (p1 p2 : Int32) (hI : Inv S) (h1 : isSt S p1 = true) (h2 : isSt S p2 = true) : CT l Z yX5_wayBetween cX5_wayBetween 3 (some .int) 1 [.ref (q 2), .int (p1), .int (p2)] (CW Z q S X) (some (.int (ar (s_wy S) (p1 * 6 + p2)))) (CW Z q S X) := by
  refine CE.mk rfl (Nat.le_of_ble_eq_true rfl) (fun p e s m args below meth c A Qx ls E hr hlk hnm hQ G hl => ?_)
  have hx := E.1.1
  have hb := E.1.2.1
  have hl : lv_has ls 3 [(0, .ref (q 2)), (1, .int (p1)), (2, .int (p2))] := hl
  refine lv_aload_n hx hb dX5_wayBetween_0 rfl (lv_at hl 0 rfl) ?_
  refine gC_2_1 E G m_69 dX5_wayBetween_1 ?_
  refine lv_iload_n hx hb dX5_wayBetween_4 rfl (lv_at hl 1 rfl) ?_
  refine lv_bipush (v := 6) hx hb dX5_wayBetween_5 (by decide) ?_
  refine lv_imul hx hb dX5_wayBetween_7 ?_
  refine lv_iload_n hx hb dX5_wayBetween_8 rfl (lv_at hl 2 rfl) ?_
  refine lv_iadd hx hb dX5_wayBetween_9 ?_
  refine aC_11 E G (ix_wy hI h1 h2) dX5_wayBetween_10 ?_
  have hs : (ar (s_wy S) (p1 * 6 + p2)) = ar (s_wy S) ((p1 * 6) + p2) := rfl
  exact r_ret E G hr hlk hQ (congrArg (fun t => some (Value.int t)) hs) rfl dX5_wayBetween_11
set_option maxHeartbeats 4000000 in
set_option maxRecDepth 100000 in
theorem c_X5_setWay (l : Launch) (Z : ZT) (q : Nat → Nat) (S : St) (X : XC) (p1 p2 p3 : Int32) (hI : Inv S) (h1 : isSt S p1 = true) (h2 : isSt S p2 = true) : CT l Z yX5_setWay cX5_setWay 4 none 1 [.ref (q 2), .int (p1), .int (p2), .int (p3)] (CW Z q S X) none (CW Z q (u_wy S (au (au (s_wy S) (p1 * 6 + p2) p3) (p2 * 6 + p1) p3)) (X)) := by
  refine CE.mk rfl (Nat.le_of_ble_eq_true rfl) (fun p e s m args below meth c A Qx ls E hr hlk hnm hQ G hl => ?_)
  have hx := E.1.1
  have hb := E.1.2.1
  have hl : lv_has ls 4 [(0, .ref (q 2)), (1, .int (p1)), (2, .int (p2)), (3, .int (p3))] := hl
  refine lv_aload_n hx hb dX5_setWay_0 rfl (lv_at hl 0 rfl) ?_
  refine gC_2_1 E G m_69 dX5_setWay_1 ?_
  refine lv_iload_n hx hb dX5_setWay_4 rfl (lv_at hl 1 rfl) ?_
  refine lv_bipush (v := 6) hx hb dX5_setWay_5 (by decide) ?_
  refine lv_imul hx hb dX5_setWay_7 ?_
  refine lv_iload_n hx hb dX5_setWay_8 rfl (lv_at hl 2 rfl) ?_
  refine lv_iadd hx hb dX5_setWay_9 ?_
  refine lv_iload_n hx hb dX5_setWay_10 rfl (lv_at hl 3 rfl) ?_
  refine tC_11 E G (ix_wy hI h1 h2) dX5_setWay_11 (fun H locs G => ?_)
  refine lv_aload_n hx hb dX5_setWay_12 rfl (lv_at hl 0 rfl) ?_
  refine gC_2_1 E G m_69 dX5_setWay_13 ?_
  refine lv_iload_n hx hb dX5_setWay_16 rfl (lv_at hl 2 rfl) ?_
  refine lv_bipush (v := 6) hx hb dX5_setWay_17 (by decide) ?_
  refine lv_imul hx hb dX5_setWay_19 ?_
  refine lv_iload_n hx hb dX5_setWay_20 rfl (lv_at hl 1 rfl) ?_
  refine lv_iadd hx hb dX5_setWay_21 ?_
  refine lv_iload_n hx hb dX5_setWay_22 rfl (lv_at hl 3 rfl) ?_
  refine tC_11 E G (ix_wy hI h2 h1) dX5_setWay_23 (fun H locs G => ?_)
  have G := GW.cast (congrArg (fun f => CW Z q (u_wy (u_wy S (au (s_wy S) ((p1 * 6) + p2) p3)) (au f ((p2 * 6) + p1) p3)) (X)) (es_s_wy _ _)) G
  have G := GW.cast (congrArg (fun T => CW Z q T X) (uu_s_wy _ _ _)) G
  have hs : (u_wy S (au (au (s_wy S) (p1 * 6 + p2) p3) (p2 * 6 + p1) p3)) = u_wy S (au (au (s_wy S) ((p1 * 6) + p2) p3) ((p2 * 6) + p1) p3) := rfl
  exact r_retv E G hr hlk hQ (by rw [hs]) dX5_setWay_24
set_option maxHeartbeats 4000000 in
set_option maxRecDepth 100000 in
theorem c_X5_wishAt (l : Launch) (Z : ZT) (q : Nat → Nat) (S : St) (X : XC) (p1 p2 : Int32) (hI : Inv S) (h1 : isSt S p1 = true) (h2 : isHo p2 = true) : CT l Z yX5_wishAt cX5_wishAt 3 (some .int) 1 [.ref (q 2), .int (p1), .int (p2)] (CW Z q S X) (some (.int (ar (s_wi S) (p1 * 12 + p2)))) (CW Z q S X) := by
  refine CE.mk rfl (Nat.le_of_ble_eq_true rfl) (fun p e s m args below meth c A Qx ls E hr hlk hnm hQ G hl => ?_)
  have hx := E.1.1
  have hb := E.1.2.1
  have hl : lv_has ls 3 [(0, .ref (q 2)), (1, .int (p1)), (2, .int (p2))] := hl
  refine lv_aload_n hx hb dX5_wishAt_0 rfl (lv_at hl 0 rfl) ?_
  refine gC_2_2 E G m_70 dX5_wishAt_1 ?_
  refine lv_iload_n hx hb dX5_wishAt_4 rfl (lv_at hl 1 rfl) ?_
  refine lv_bipush (v := 12) hx hb dX5_wishAt_5 (by decide) ?_
  refine lv_imul hx hb dX5_wishAt_7 ?_
  refine lv_iload_n hx hb dX5_wishAt_8 rfl (lv_at hl 2 rfl) ?_
  refine lv_iadd hx hb dX5_wishAt_9 ?_
  refine aC_12 E G (ix_wi hI h1 h2) dX5_wishAt_10 ?_
  have hs : (ar (s_wi S) (p1 * 12 + p2)) = ar (s_wi S) ((p1 * 12) + p2) := rfl
  exact r_ret E G hr hlk hQ (congrArg (fun t => some (Value.int t)) hs) rfl dX5_wishAt_11
set_option maxHeartbeats 4000000 in
set_option maxRecDepth 100000 in
theorem c_X5_setWish (l : Launch) (Z : ZT) (q : Nat → Nat) (S : St) (X : XC) (p1 p2 p3 : Int32) (hI : Inv S) (h1 : isSt S p1 = true) (h2 : isHo p2 = true) : CT l Z yX5_setWish cX5_setWish 4 none 1 [.ref (q 2), .int (p1), .int (p2), .int (p3)] (CW Z q S X) none (CW Z q (u_wi S (au (s_wi S) (p1 * 12 + p2) p3)) (X)) := by
  refine CE.mk rfl (Nat.le_of_ble_eq_true rfl) (fun p e s m args below meth c A Qx ls E hr hlk hnm hQ G hl => ?_)
  have hx := E.1.1
  have hb := E.1.2.1
  have hl : lv_has ls 4 [(0, .ref (q 2)), (1, .int (p1)), (2, .int (p2)), (3, .int (p3))] := hl
  refine lv_aload_n hx hb dX5_setWish_0 rfl (lv_at hl 0 rfl) ?_
  refine gC_2_2 E G m_70 dX5_setWish_1 ?_
  refine lv_iload_n hx hb dX5_setWish_4 rfl (lv_at hl 1 rfl) ?_
  refine lv_bipush (v := 12) hx hb dX5_setWish_5 (by decide) ?_
  refine lv_imul hx hb dX5_setWish_7 ?_
  refine lv_iload_n hx hb dX5_setWish_8 rfl (lv_at hl 2 rfl) ?_
  refine lv_iadd hx hb dX5_setWish_9 ?_
  refine lv_iload_n hx hb dX5_setWish_10 rfl (lv_at hl 3 rfl) ?_
  refine tC_12 E G (ix_wi hI h1 h2) dX5_setWish_11 (fun H locs G => ?_)
  have hs : (u_wi S (au (s_wi S) (p1 * 12 + p2) p3)) = u_wi S (au (s_wi S) ((p1 * 12) + p2) p3) := rfl
  exact r_retv E G hr hlk hQ (by rw [hs]) dX5_setWish_12
set_option maxHeartbeats 4000000 in
set_option maxRecDepth 100000 in
theorem c_X5_worthAt (l : Launch) (Z : ZT) (q : Nat → Nat) (S : St) (X : XC) (p1 p2 : Int32) (hI : Inv S) (h1 : isSt S p1 = true) (h2 : isHo p2 = true) : CT l Z yX5_worthAt cX5_worthAt 3 (some .int) 2 [.ref (q 2), .int (p1), .int (p2)] (CW Z q S X) (some (.int (wor S p1 p2))) (CW Z q S X) := by
  refine CE.mk rfl (Nat.le_of_ble_eq_true rfl) (fun p e s m args below meth c A Qx ls E hr hlk hnm hQ G hl => ?_)
  have hx := E.1.1
  have hb := E.1.2.1
  have hl : lv_has ls 3 [(0, .ref (q 2)), (1, .int (p1)), (2, .int (p2))] := hl
  refine lv_aload_n hx hb dX5_worthAt_0 rfl (lv_at hl 0 rfl) ?_
  refine lv_iload_n hx hb dX5_worthAt_1 rfl (lv_at hl 1 rfl) ?_
  refine lv_iload_n hx hb dX5_worthAt_2 rfl (lv_at hl 2 rfl) ?_
  refine r_V [] E G (c_X5_wishAt l Z q S X p1 p2 hI h1 h2) kX5_wishAt m_376 2 rfl rfl ⟨Nat.le_of_ble_eq_true rfl, Nat.le_of_ble_eq_true rfl⟩ hl dX5_worthAt_3 rfl rfl (Nat.le_of_ble_eq_true rfl) ⟨Nat.zero_le _, Nat.zero_le _⟩ (fun H locs G => ?_)
  refine lv_aload_n hx hb dX5_worthAt_6 rfl (lv_at hl 0 rfl) ?_
  refine gC_2_4 E G m_73 dX5_worthAt_7 ?_
  refine lv_iconst (v := 2) hx hb dX5_worthAt_10 (by decide) ?_
  refine lv_iadd hx hb dX5_worthAt_11 ?_
  refine lv_imul hx hb dX5_worthAt_12 ?_
  refine lv_iconst (v := 4) hx hb dX5_worthAt_13 (by decide) ?_
  refine lv_idiv hx hb dX5_worthAt_14 (by decide) ?_
  have hs : (wor S p1 p2) = ((ar (s_wi S) (p1 * 12 + p2)) * ((s_he S) + 2)) / 4 := rfl
  exact r_ret E G hr hlk hQ (congrArg (fun t => some (Value.int t)) hs) rfl dX5_worthAt_15
set_option maxHeartbeats 4000000 in
set_option maxRecDepth 100000 in
theorem c_X5_add (l : Launch) (Z : ZT) (q : Nat → Nat) (S : St) (X : XC) (p1 : Int32) (hI : Inv S) (h1 : s_st S < 6) (h2 : vp_nar .boolean p1 = p1) : CT l Z yX5_add cX5_add 2 (some .int) 1 [.ref (q 2), .int (p1)] (CW Z q S X) (some (.int (((s_st S + 1 - 1, u_st (u_sc S (au (s_sc S) (s_st S) p1)) (s_st S + 1))).1))) (CW Z q (((s_st S + 1 - 1, u_st (u_sc S (au (s_sc S) (s_st S) p1)) (s_st S + 1))).2) (X)) := by
  refine CE.mk rfl (Nat.le_of_ble_eq_true rfl) (fun p e s m args below meth c A Qx ls E hr hlk hnm hQ G hl => ?_)
  have hx := E.1.1
  have hb := E.1.2.1
  have hl : lv_has ls 2 [(0, .ref (q 2)), (1, .int (p1))] := hl
  refine lv_aload_n hx hb dX5_add_0 rfl (lv_at hl 0 rfl) ?_
  refine gC_2_0 E G m_67 dX5_add_1 ?_
  refine lv_aload_n hx hb dX5_add_4 rfl (lv_at hl 0 rfl) ?_
  refine gC_2_3 E G m_71 dX5_add_5 ?_
  refine lv_iload_n hx hb dX5_add_8 rfl (lv_at hl 1 rfl) ?_
  refine tC_10 E G (ix_lim hI.st.1 h1 (by decide)) (h2) dX5_add_9 (fun H locs G => ?_)
  refine lv_aload_n hx hb dX5_add_10 rfl (lv_at hl 0 rfl) ?_
  refine lv_dup hx hb dX5_add_11 rfl ?_
  refine gC_2_3 E G m_71 dX5_add_12 ?_
  refine lv_topc (e_s_st_sc _ _) ?_
  refine lv_iconst (v := 1) hx hb dX5_add_15 (by decide) ?_
  refine lv_iadd hx hb dX5_add_16 ?_
  refine pC_2_3 E G m_71 dX5_add_17 (fun H locs G => ?_)
  refine lv_aload_n hx hb dX5_add_20 rfl (lv_at hl 0 rfl) ?_
  refine gC_2_3 E G m_71 dX5_add_21 ?_
  refine lv_topc (es_s_st _ _) ?_
  refine lv_iconst (v := 1) hx hb dX5_add_24 (by decide) ?_
  refine lv_isub hx hb dX5_add_25 ?_
  have hs : ((s_st S + 1 - 1, u_st (u_sc S (au (s_sc S) (s_st S) p1)) (s_st S + 1))) = (((s_st S) + 1) - 1, u_st (u_sc S (au (s_sc S) (s_st S) p1)) ((s_st S) + 1)) := rfl
  exact r_ret E G hr hlk hQ (by rw [hs]) (by rw [hs]) dX5_add_26
set_option maxHeartbeats 4000000 in
set_option maxRecDepth 100000 in
theorem c_X3_barsSchoolsAt (l : Launch) (Z : ZT) (q : Nat → Nat) (S : St) (X : XC) (p1 : Int32) : CT l Z yX3_barsSchoolsAt cX3_barsSchoolsAt 2 (some .boolean) 1 [.ref (q 3), .int (p1)] (CW Z q S X) (some (.int (b01 (inr p1 (s_bf S) (s_bt S))))) (CW Z q S X) := by
  refine CE.mk rfl (Nat.le_of_ble_eq_true rfl) (fun p e s m args below meth c A Qx ls E hr hlk hnm hQ G hl => ?_)
  have hx := E.1.1
  have hb := E.1.2.1
  have hl : lv_has ls 2 [(0, .ref (q 3)), (1, .int (p1))] := hl
  refine lv_iload_n hx hb dX3_barsSchoolsAt_0 rfl (lv_at hl 1 rfl) ?_
  refine lv_aload_n hx hb dX3_barsSchoolsAt_1 rfl (lv_at hl 0 rfl) ?_
  refine gC_3_0 E G m_94 dX3_barsSchoolsAt_2 ?_
  refine lv_icmp_lt (tgt := 20) hx hb dX3_barsSchoolsAt_5 (by decide) (fun c_5 => ?_) (fun c_5 => ?_)
  · skip
    have c_5n := Int32.not_le.mpr c_5
    refine lv_iconst (v := 0) hx hb dX3_barsSchoolsAt_20 (by decide) ?_
    have hs : (inr p1 (s_bf S) (s_bt S)) = false := by first | rfl | (simp [inr, c_5, c_5n]; done) | (simp_all [inr]; done)
    exact r_retz E G hr hlk hQ (by decide) (congrArg (fun t => some (Value.int (b01 t))) hs) rfl dX3_barsSchoolsAt_21
  · skip
    have c_5n := Int32.not_lt.mp c_5
    refine lv_iload_n hx hb dX3_barsSchoolsAt_8 rfl (lv_at hl 1 rfl) ?_
    refine lv_aload_n hx hb dX3_barsSchoolsAt_9 rfl (lv_at hl 0 rfl) ?_
    refine gC_3_1 E G m_96 dX3_barsSchoolsAt_10 ?_
    refine lv_icmp_gt (tgt := 20) hx hb dX3_barsSchoolsAt_13 (by decide) (fun c_13 => ?_) (fun c_13 => ?_)
    · skip
      have c_13n := Int32.not_le.mpr c_13
      refine lv_iconst (v := 0) hx hb dX3_barsSchoolsAt_20 (by decide) ?_
      have hs : (inr p1 (s_bf S) (s_bt S)) = false := by first | rfl | (simp [inr, c_5, c_5n, c_13, c_13n]; done) | (simp_all [inr]; done)
      exact r_retz E G hr hlk hQ (by decide) (congrArg (fun t => some (Value.int (b01 t))) hs) rfl dX3_barsSchoolsAt_21
    · skip
      have c_13n := Int32.not_lt.mp c_13
      refine lv_iconst (v := 1) hx hb dX3_barsSchoolsAt_16 (by decide) ?_
      refine lv_goto (tgt := 21) hx hb dX3_barsSchoolsAt_17 (by decide) ?_
      have hs : (inr p1 (s_bf S) (s_bt S)) = true := by first | rfl | (simp [inr, c_5, c_5n, c_13, c_13n]; done) | (simp_all [inr]; done)
      exact r_retz E G hr hlk hQ (by decide) (congrArg (fun t => some (Value.int (b01 t))) hs) rfl dX3_barsSchoolsAt_21
set_option maxHeartbeats 4000000 in
set_option maxRecDepth 100000 in
theorem c_X4_has (l : Launch) (Z : ZT) (q : Nat → Nat) (S : St) (X : XC) (p1 : Int32) : CT l Z yX4_has cX4_has 2 (some .boolean) 1 [.ref (q 7), .int (p1)] (CW Z q S X) (some (.int (b01 (isSd S p1)))) (CW Z q S X) := by
  refine CE.mk rfl (Nat.le_of_ble_eq_true rfl) (fun p e s m args below meth c A Qx ls E hr hlk hnm hQ G hl => ?_)
  have hx := E.1.1
  have hb := E.1.2.1
  have hl : lv_has ls 2 [(0, .ref (q 7)), (1, .int (p1))] := hl
  refine lv_iload_n hx hb dX4_has_0 rfl (lv_at hl 1 rfl) ?_
  refine lv_if_lt (tgt := 16) hx hb dX4_has_1 (by decide) (fun c_1 => ?_) (fun c_1 => ?_)
  · skip
    have c_1n := Int32.not_le.mpr c_1
    refine lv_iconst (v := 0) hx hb dX4_has_16 (by decide) ?_
    have hs : (isSd S p1) = false := by first | rfl | (simp [isSd, c_1, c_1n]; done) | (simp_all [isSd]; done)
    exact r_retz E G hr hlk hQ (by decide) (congrArg (fun t => some (Value.int (b01 t))) hs) rfl dX4_has_17
  · skip
    have c_1n := Int32.not_lt.mp c_1
    refine lv_iload_n hx hb dX4_has_4 rfl (lv_at hl 1 rfl) ?_
    refine lv_aload_n hx hb dX4_has_5 rfl (lv_at hl 0 rfl) ?_
    refine gC_7_4 E G m_150 dX4_has_6 ?_
    refine lv_icmp_ge (tgt := 16) hx hb dX4_has_9 (by decide) (fun c_9 => ?_) (fun c_9 => ?_)
    · skip
      have c_9n := Int32.not_lt.mpr c_9
      refine lv_iconst (v := 0) hx hb dX4_has_16 (by decide) ?_
      have hs : (isSd S p1) = false := by first | rfl | (simp [isSd, c_1, c_1n, c_9, c_9n]; done) | (simp_all [isSd]; done)
      exact r_retz E G hr hlk hQ (by decide) (congrArg (fun t => some (Value.int (b01 t))) hs) rfl dX4_has_17
    · skip
      have c_9n := Int32.not_le.mp c_9
      refine lv_iconst (v := 1) hx hb dX4_has_12 (by decide) ?_
      refine lv_goto (tgt := 17) hx hb dX4_has_13 (by decide) ?_
      have hs : (isSd S p1) = true := by first | rfl | (simp [isSd, c_1, c_1n, c_9, c_9n]; done) | (simp_all [isSd]; done)
      exact r_retz E G hr hlk hQ (by decide) (congrArg (fun t => some (Value.int (b01 t))) hs) rfl dX4_has_17
set_option maxHeartbeats 4000000 in
set_option maxRecDepth 100000 in
theorem c_X4_isFull (l : Launch) (Z : ZT) (q : Nat → Nat) (S : St) (X : XC) : CT l Z yX4_isFull cX4_isFull 1 (some .boolean) 1 [.ref (q 7)] (CW Z q S X) (some (.int (b01 (decide (24 ≤ s_sd S))))) (CW Z q S X) := by
  refine CE.mk rfl (Nat.le_of_ble_eq_true rfl) (fun p e s m args below meth c A Qx ls E hr hlk hnm hQ G hl => ?_)
  have hx := E.1.1
  have hb := E.1.2.1
  have hl : lv_has ls 1 [(0, .ref (q 7))] := hl
  refine lv_aload_n hx hb dX4_isFull_0 rfl (lv_at hl 0 rfl) ?_
  refine gC_7_4 E G m_150 dX4_isFull_1 ?_
  refine lv_bipush (v := 24) hx hb dX4_isFull_4 (by decide) ?_
  refine lv_icmp_lt (tgt := 13) hx hb dX4_isFull_6 (by decide) (fun c_6 => ?_) (fun c_6 => ?_)
  · skip
    have c_6n := Int32.not_le.mpr c_6
    refine lv_iconst (v := 0) hx hb dX4_isFull_13 (by decide) ?_
    have hs : (decide (24 ≤ s_sd S)) = false := by first | rfl | (simp [c_6, c_6n]; done) | (simp_all []; done)
    exact r_retz E G hr hlk hQ (by decide) (congrArg (fun t => some (Value.int (b01 t))) hs) rfl dX4_isFull_14
  · skip
    have c_6n := Int32.not_lt.mp c_6
    refine lv_iconst (v := 1) hx hb dX4_isFull_9 (by decide) ?_
    refine lv_goto (tgt := 14) hx hb dX4_isFull_10 (by decide) ?_
    have hs : (decide (24 ≤ s_sd S)) = true := by first | rfl | (simp [c_6, c_6n]; done) | (simp_all []; done)
    exact r_retz E G hr hlk hQ (by decide) (congrArg (fun t => some (Value.int (b01 t))) hs) rfl dX4_isFull_14
set_option maxHeartbeats 4000000 in
set_option maxRecDepth 100000 in
theorem c_X1_has (l : Launch) (Z : ZT) (q : Nat → Nat) (S : St) (X : XC) (p1 : Int32) : CT l Z yX1_has cX1_has 2 (some .boolean) 1 [.ref (q 8), .int (p1)] (CW Z q S X) (some (.int (b01 (isBi S p1)))) (CW Z q S X) := by
  refine CE.mk rfl (Nat.le_of_ble_eq_true rfl) (fun p e s m args below meth c A Qx ls E hr hlk hnm hQ G hl => ?_)
  have hx := E.1.1
  have hb := E.1.2.1
  have hl : lv_has ls 2 [(0, .ref (q 8)), (1, .int (p1))] := hl
  refine lv_iload_n hx hb dX1_has_0 rfl (lv_at hl 1 rfl) ?_
  refine lv_if_lt (tgt := 16) hx hb dX1_has_1 (by decide) (fun c_1 => ?_) (fun c_1 => ?_)
  · skip
    have c_1n := Int32.not_le.mpr c_1
    refine lv_iconst (v := 0) hx hb dX1_has_16 (by decide) ?_
    have hs : (isBi S p1) = false := by first | rfl | (simp [isBi, c_1, c_1n]; done) | (simp_all [isBi]; done)
    exact r_retz E G hr hlk hQ (by decide) (congrArg (fun t => some (Value.int (b01 t))) hs) rfl dX1_has_17
  · skip
    have c_1n := Int32.not_lt.mp c_1
    refine lv_iload_n hx hb dX1_has_4 rfl (lv_at hl 1 rfl) ?_
    refine lv_aload_n hx hb dX1_has_5 rfl (lv_at hl 0 rfl) ?_
    refine gC_8_3 E G m_173 dX1_has_6 ?_
    refine lv_icmp_ge (tgt := 16) hx hb dX1_has_9 (by decide) (fun c_9 => ?_) (fun c_9 => ?_)
    · skip
      have c_9n := Int32.not_lt.mpr c_9
      refine lv_iconst (v := 0) hx hb dX1_has_16 (by decide) ?_
      have hs : (isBi S p1) = false := by first | rfl | (simp [isBi, c_1, c_1n, c_9, c_9n]; done) | (simp_all [isBi]; done)
      exact r_retz E G hr hlk hQ (by decide) (congrArg (fun t => some (Value.int (b01 t))) hs) rfl dX1_has_17
    · skip
      have c_9n := Int32.not_le.mp c_9
      refine lv_iconst (v := 1) hx hb dX1_has_12 (by decide) ?_
      refine lv_goto (tgt := 17) hx hb dX1_has_13 (by decide) ?_
      have hs : (isBi S p1) = true := by first | rfl | (simp [isBi, c_1, c_1n, c_9, c_9n]; done) | (simp_all [isBi]; done)
      exact r_retz E G hr hlk hQ (by decide) (congrArg (fun t => some (Value.int (b01 t))) hs) rfl dX1_has_17
set_option maxHeartbeats 4000000 in
set_option maxRecDepth 100000 in
theorem c_X1_isFull (l : Launch) (Z : ZT) (q : Nat → Nat) (S : St) (X : XC) : CT l Z yX1_isFull cX1_isFull 1 (some .boolean) 1 [.ref (q 8)] (CW Z q S X) (some (.int (b01 (decide (12 ≤ s_bi S))))) (CW Z q S X) := by
  refine CE.mk rfl (Nat.le_of_ble_eq_true rfl) (fun p e s m args below meth c A Qx ls E hr hlk hnm hQ G hl => ?_)
  have hx := E.1.1
  have hb := E.1.2.1
  have hl : lv_has ls 1 [(0, .ref (q 8))] := hl
  refine lv_aload_n hx hb dX1_isFull_0 rfl (lv_at hl 0 rfl) ?_
  refine gC_8_3 E G m_173 dX1_isFull_1 ?_
  refine lv_bipush (v := 12) hx hb dX1_isFull_4 (by decide) ?_
  refine lv_icmp_lt (tgt := 13) hx hb dX1_isFull_6 (by decide) (fun c_6 => ?_) (fun c_6 => ?_)
  · skip
    have c_6n := Int32.not_le.mpr c_6
    refine lv_iconst (v := 0) hx hb dX1_isFull_13 (by decide) ?_
    have hs : (decide (12 ≤ s_bi S)) = false := by first | rfl | (simp [c_6, c_6n]; done) | (simp_all []; done)
    exact r_retz E G hr hlk hQ (by decide) (congrArg (fun t => some (Value.int (b01 t))) hs) rfl dX1_isFull_14
  · skip
    have c_6n := Int32.not_lt.mp c_6
    refine lv_iconst (v := 1) hx hb dX1_isFull_9 (by decide) ?_
    refine lv_goto (tgt := 14) hx hb dX1_isFull_10 (by decide) ?_
    have hs : (decide (12 ≤ s_bi S)) = true := by first | rfl | (simp [c_6, c_6n]; done) | (simp_all []; done)
    exact r_retz E G hr hlk hQ (by decide) (congrArg (fun t => some (Value.int (b01 t))) hs) rfl dX1_isFull_14
set_option maxHeartbeats 4000000 in
set_option maxRecDepth 100000 in
theorem c_X8_finding (l : Launch) (Z : ZT) (q : Nat → Nat) (S : St) (X : XC) (p1 : Int32) (h1 : inr (-1000000 - p1) 1 5 = true) : CT l Z yX8_finding cX8_finding 3 (some .int) 1 [.ref (q 0), .int (p1)] (CW Z q S X) (some (.int ((fnd S p1).1))) (CW Z q ((fnd S p1).2) (X)) := by
  refine CE.mk rfl (Nat.le_of_ble_eq_true rfl) (fun p e s m args below meth c A Qx ls E hr hlk hnm hQ G hl => ?_)
  have hx := E.1.1
  have hb := E.1.2.1
  have hl : lv_has ls 3 [(0, .ref (q 0)), (1, .int (p1))] := hl
  refine lv_ldc hx hb E.1.2.2.2.1 (E.1.2.2.2.2 _ m_231) dX8_finding_0 ?_
  refine lv_iload_n hx hb dX8_finding_2 rfl (lv_at hl 1 rfl) ?_
  refine lv_isub hx hb dX8_finding_3 ?_
  refine lv_istore_n (lv' := [(2, .int ((-1000000) - p1)), (0, .ref (q 0)), (1, .int (p1))]) hx hb dX8_finding_4 rfl hl (by decide) rfl (fun ls hl => ?_)
  refine lv_iload_n hx hb dX8_finding_5 rfl (lv_at hl 0 rfl) ?_
  refine lv_iconst (v := 1) hx hb dX8_finding_6 (by decide) ?_
  refine lv_icmp_lt (tgt := 25) hx hb dX8_finding_7 (by decide) (fun c_7 => ?_) (fun c_7 => ?_)
  · skip
    have c_7n := Int32.not_le.mpr c_7
    exact absurd c_7 (fnd_in h1).1
  · skip
    have c_7n := Int32.not_lt.mp c_7
    refine lv_iload_n hx hb dX8_finding_10 rfl (lv_at hl 0 rfl) ?_
    refine lv_iconst (v := 5) hx hb dX8_finding_11 (by decide) ?_
    refine lv_icmp_gt (tgt := 25) hx hb dX8_finding_12 (by decide) (fun c_12 => ?_) (fun c_12 => ?_)
    · skip
      have c_12n := Int32.not_le.mpr c_12
      exact absurd c_12 (fnd_in h1).2
    · skip
      have c_12n := Int32.not_lt.mp c_12
      refine lv_aload_n hx hb dX8_finding_15 rfl (lv_at hl 1 rfl) ?_
      refine gC_0_0 E G m_188 dX8_finding_16 ?_
      refine lv_iload_n hx hb dX8_finding_19 rfl (lv_at hl 0 rfl) ?_
      refine lv_dup2_11 hx hb dX8_finding_20 rfl rfl ?_
      refine aC_1 E G (ix_fnd h1) dX8_finding_21 ?_
      refine lv_iconst (v := 1) hx hb dX8_finding_22 (by decide) ?_
      refine lv_iadd hx hb dX8_finding_23 ?_
      refine tC_1 E G (ix_fnd h1) dX8_finding_24 (fun H locs G => ?_)
      refine lv_iload_n hx hb dX8_finding_25 rfl (lv_at hl 2 rfl) ?_
      have hs : (fnd S p1) = (p1, u_co S (au (s_co S) ((-1000000) - p1) ((ar (s_co S) ((-1000000) - p1)) + 1))) := rfl
      exact r_ret E G hr hlk hQ (by rw [hs]) (by rw [hs]) dX8_finding_26
set_option maxHeartbeats 4000000 in
set_option maxRecDepth 100000 in
theorem c_X4_latestAhead (l : Launch) (Z : ZT) (q : Nat → Nat) (S : St) (X : XC) (p1 p2 : Int32) (h0 : 0 ≤ p2) (h1 : p2 ≤ 24) : CT l Z yX4_latestAhead cX4_latestAhead 5 (some .int) 1 [.ref (q 7), .int (p1), .int (p2)] (CW Z q S X) (some (.int (laS S p1 p2.toNatClampNeg))) (CW Z q S X) := by
  refine CE.mk rfl (Nat.le_of_ble_eq_true rfl) (fun p e s m args below meth c A Qx ls E hr hlk hnm hQ G hl => ?_)
  have hx := E.1.1
  have hb := E.1.2.1
  have hl : lv_has ls 5 [(0, .ref (q 7)), (1, .int (p1)), (2, .int (p2))] := hl
  have h24 : p2.toNatClampNeg ≤ 24 := cl_le h0 (by have := (i_le _ _).mp h1; have e := e_lit; omega)
  refine lv_iconst (v := -1) hx hb dX4_latestAhead_0 (by decide) ?_
  refine lv_istore_n (lv' := [(3, .int ((-1))), (0, .ref (q 7)), (1, .int (p1)), (2, .int (p2))]) hx hb dX4_latestAhead_1 rfl hl (by decide) rfl (fun ls hl => ?_)
  refine lv_iconst (v := 0) hx hb dX4_latestAhead_2 (by decide) ?_
  refine lv_istore (lv' := [(4, .int (0)), (3, .int ((-1))), (0, .ref (q 7)), (1, .int (p1)), (2, .int (p2))]) hx hb dX4_latestAhead_3 hl (by decide) rfl (fun ls hl => ?_)
  have L5 : ∀ k : Nat, k ≤ p2.toNatClampNeg → (∀ (H : Heap) (locs : List Loc) (ls : Array Slot), GW Z (CW Z q S X) A s.heap H locs → lv_has ls 5 [(0, .ref (q 7)), (1, .int (p1)), (2, .int (p2)), (3, .int (laS S p1 k)), (4, .int (nI k))] → W p l e (rmk 1 0 0) s m args below meth c H locs 0 0 Qx (F0 m 5 ls [])) := by
    refine up_in2 (P := fun k => (∀ (H : Heap) (locs : List Loc) (ls : Array Slot), GW Z (CW Z q S X) A s.heap H locs → lv_has ls 5 [(0, .ref (q 7)), (1, .int (p1)), (2, .int (p2)), (3, .int (laS S p1 k)), (4, .int (nI k))] → W p l e (rmk 1 0 0) s m args below meth c H locs 0 0 Qx (F0 m 5 ls []))) (p2.toNatClampNeg) ?_
    intro k hkk ih5 H locs ls G hl
    refine lv_iload hx hb dX4_latestAhead_5 (lv_at hl 4 rfl) ?_
    refine lv_iload_n hx hb dX4_latestAhead_7 rfl (lv_at hl 2 rfl) ?_
    refine lv_icmp_ge (tgt := 31) hx hb dX4_latestAhead_8 (by decide) (fun c_8 => ?_) (fun c_8 => ?_)
    · skip
      have c_8n := Int32.not_lt.mpr c_8
      refine lv_iload_n hx hb dX4_latestAhead_31 rfl (lv_at hl 3 rfl) ?_
      have hs : (laS S p1 p2.toNatClampNeg) = laS S p1 k := by rw [lp_eq h0 hkk c_8]
      exact r_ret E G hr hlk hQ (congrArg (fun t => some (Value.int t)) hs) rfl dX4_latestAhead_32
    · skip
      have c_8n := Int32.not_le.mp c_8
      refine lv_aload_n hx hb dX4_latestAhead_11 rfl (lv_at hl 0 rfl) ?_
      refine gC_7_0 E G m_142 dX4_latestAhead_12 ?_
      refine lv_iload hx hb dX4_latestAhead_15 (lv_at hl 4 rfl) ?_
      refine aC_17 E G (ix_k (lp_lt h0 hkk c_8) h24 (by decide)) dX4_latestAhead_17 ?_
      refine lv_iload_n hx hb dX4_latestAhead_18 rfl (lv_at hl 1 rfl) ?_
      refine lv_icmp_ne (tgt := 25) hx hb dX4_latestAhead_19 (by decide) (fun c_19 => ?_) (fun c_19 => ?_)
      · skip
        refine lv_iinc (v := (nI k) + 1) (lv' := [(4, .int ((nI k) + 1)), (0, .ref (q 7)), (1, .int (p1)), (2, .int (p2)), (3, .int (laS S p1 k))]) hx hb dX4_latestAhead_25 hl (k := 4) rfl rfl (by decide) rfl (fun ls hl => ?_)
        refine lv_goto (tgt := 5) hx hb dX4_latestAhead_28 (by decide) ?_
        exact ih5 (lp_lt h0 hkk c_8) _ _ _ (GW.cast (rfl) G) (lv_cast (lv_sub (l' := [(0, .ref (q 7)), (1, .int (p1)), (2, .int (p2)), (3, .int (laS S p1 k)), (4, .int ((nI k) + 1))]) hl [1, 2, 3, 4, 0] rfl) (by simp only [ar_nI (s_sv S) (show k < 2 ^ 31 by omega)] at c_19; simp [nI_1, laS, c_19]))
      · skip
        refine lv_iload hx hb dX4_latestAhead_22 (lv_at hl 4 rfl) ?_
        refine lv_istore_n (lv' := [(3, .int (nI k)), (0, .ref (q 7)), (1, .int (p1)), (2, .int (p2)), (4, .int (nI k))]) hx hb dX4_latestAhead_24 rfl hl (by decide) rfl (fun ls hl => ?_)
        refine lv_iinc (v := (nI k) + 1) (lv' := [(4, .int ((nI k) + 1)), (3, .int (nI k)), (0, .ref (q 7)), (1, .int (p1)), (2, .int (p2))]) hx hb dX4_latestAhead_25 hl (k := 4) rfl rfl (by decide) rfl (fun ls hl => ?_)
        refine lv_goto (tgt := 5) hx hb dX4_latestAhead_28 (by decide) ?_
        exact ih5 (lp_lt h0 hkk c_8) _ _ _ (GW.cast (rfl) G) (lv_cast (lv_sub (l' := [(0, .ref (q 7)), (1, .int (p1)), (2, .int (p2)), (3, .int (nI k)), (4, .int ((nI k) + 1))]) hl [2, 3, 4, 1, 0] rfl) (by simp only [ar_nI (s_sv S) (show k < 2 ^ 31 by omega)] at c_19; simp [nI_1, laS, c_19]))
  exact L5 0 (Nat.zero_le _) _ _ _ (GW.cast (rfl) G) (lv_cast (lv_sub (l' := [(0, .ref (q 7)), (1, .int (p1)), (2, .int (p2)), (3, .int ((-1))), (4, .int (0))]) hl [2, 3, 4, 1, 0] rfl) (by rw [nI_0]; rfl))
end
section
theorem sub_sub0 {L k : Int32} (hL : L.toInt = -1000000) (h1 : 1 ≤ k.toInt ∧ k.toInt ≤ 5) : L - (L - k) = k := by
  have h2 : (L - k).toInt = L.toInt - k.toInt := i_sub (by omega) (by omega)
  have h3 : (L - (L - k)).toInt = L.toInt - (L - k).toInt := i_sub (by omega) (by omega)
  rw [← Int32.toInt_inj]
  omega
theorem sub_sub {k : Int32} (h : inr k 1 5 = true) : -1000000 - (-1000000 - k) = k := by
  have h1 := in_of h
  have e := e_lit
  exact sub_sub0 (by decide) (by omega)
theorem ar_au {f : Nat → Int32} {i x : Int32} : ar (au f i x) i = x := pk_us
theorem c_6 (a : Int32) : 6 * a = a * 6 := Int32.mul_comm _ _
theorem c_12 (a : Int32) : 12 * a = a * 12 := Int32.mul_comm _ _
theorem ge_lim {x y : Int32} (h : x ≤ y) : (y ≤ x) = (x = y) := propext ⟨fun g => Int32.le_antisymm h g, fun g => by rw [g]; exact Int32.le_refl _⟩
theorem lt_lim {x y : Int32} (h : x ≤ y) (g : ¬ y ≤ x) : x < y := Int32.not_le.mp g
theorem ne_lim {x y : Int32} (h : x ≤ y) (g : ¬ x = y) : x < y := Int32.not_le.mp (fun k => g (Int32.le_antisymm h k))
theorem ix_1 {x : Int32} {n : Nat} (h : vp_in x n) : vp_in x n := h
-- stands
def adS (S : St) (v a h c : Int32) : Int32 × St := (s_sd S + 1 - 1, u_sd (u_sm (u_sh (u_ss (u_sv S (au (s_sv S) (s_sd S) v)) (au (s_ss S) (s_sd S) a)) (au (s_sh S) (s_sd S) h)) (au (s_sm S) (s_sd S) c)) (s_sd S + 1))
def adB (S : St) (c d : Int32) : Int32 × St := (s_bi S + 1 - 1, u_bi (u_du (u_bd (u_le S (au (s_le S) (s_bi S) c)) (au (s_bd S) (s_bi S) d)) (au (s_du S) (s_bi S) (d + s_cr S))) (s_bi S + 1))
def owS (S : St) (n d : Int32) : Int32 := if d < ar (s_bd S) n then 0 else ar (s_le S) n + (if d - ar (s_du S) n < 0 then 0 else d - ar (s_du S) n) / 7 * (ar (s_le S) n / 50)
def owA (S : St) (d : Int32) : Nat → Int32
  | 0 => 0
  | k + 1 => owA S d k + owS S (nI k) d
-- who holds a street
def hoS (S : St) (a : Int32) : Nat → Int32 × Int32
  | 0 => (-1, 0)
  | k + 1 => if (hoS S a k).2 < coS S (nI k) a (s_sd S).toNatClampNeg then (nI k, coS S (nI k) a (s_sd S).toNatClampNeg) else hoS S a k
def hol (S : St) (a : Int32) : Int32 := (hoS S a (s_va S).toNatClampNeg).1
def geS (S : St) (a b s t h : Int32) : Int32 := if s = t then (if hol S s = a then wor S s h * 2 / 3 else if hol S s = b then wor S s h / 3 else wor S s h / 2) else wor S s h
-- wrong
def soon (S : St) (n : Int32) : Bool := decide (0 ≤ laS S (ar (s_sv S) n) n.toNatClampNeg) && decide (ar (s_sh S) n < ar (s_sh S) (laS S (ar (s_sv S) n) n.toNatClampNeg) + lat S (ar (s_sv S) n) (ar (s_ss S) (laS S (ar (s_sv S) n) n.toNatClampNeg)) (ar (s_ss S) n))
def wrS (S : St) (n : Int32) : Int32 := if isLi S (ar (s_sv S) n) (ar (s_ss S) n) then (if isBa S (ar (s_ss S) n) (ar (s_sh S) n) then 2 else if s_cm S < ar (s_sm S) n then 3 else if soon S n then 4 else if taS S (ar (s_ss S) n) (ar (s_sh S) n) n.toNatClampNeg then 5 else 0) else 1
def clS (S : St) : Nat → Int32
  | 0 => 0
  | k + 1 => if wrS S (nI k) = 0 then clS S k else clS S k + 1
def soA (S : St) : Nat → Int32
  | 0 => 0
  | k + 1 => soA S k + s_so S k
-- the calls
def sp_street (S : St) (k : Int32) : Int32 × St := if inr k 0 1 then (if s_st S = 6 then fnd S (-1000004) else (s_st S + 1 - 1, u_st (u_sc S (au (s_sc S) (s_st S) k)) (s_st S + 1))) else fnd S (-1000001)
def sp_way (S : St) (a b v : Int32) : Int32 × St := if isSt S a && (isSt S b && (!decide (a = b) && inr v 0 3)) then (ar (s_wy S) (a * 6 + b), u_wy S (au (au (s_wy S) (a * 6 + b) v) (b * 6 + a) v)) else fnd S (-1000001)
def sp_wish (S : St) (s h v : Int32) : Int32 × St := if isSt S s && (isHo h && inr v 0 200) then (ar (s_wi S) (s * 12 + h), u_wi S (au (s_wi S) (s * 12 + h) v)) else fnd S (-1000001)
def sp_heat (S : St) (v : Int32) : Int32 × St := if inr v 0 4 then (s_he S, u_he S v) else fnd S (-1000001)
def sp_as (S : St) (v k : Int32) : Int32 × St := if isVa S v && isKi k then (if k = 0 ∨ ar (s_ki S) v = k then (ar (s_so S) v, S) else fnd S (-1000005)) else fnd S (-1000001)
def sp_stock (S : St) (v n : Int32) : Int32 × St := if isVa S v && inr n 0 2000 then (ar (s_so S) v, u_so S (au (s_so S) v n)) else fnd S (-1000001)
def sp_licence (S : St) (v n : Int32) : Int32 × St := if isVa S v && inr n 0 63 then (ar (s_li S) v, u_li S (au (s_li S) v n)) else fnd S (-1000001)
def sp_law (S : St) (a b c : Int32) : Int32 × St := if isHo a && (isHo b && inr c 0 60) then (1, u_cm (u_bt (u_bf S a) b) c) else fnd S (-1000001)
def sp_may (S : St) (v s h : Int32) : Int32 × St := if isVa S v && (isSt S s && isHo h) then (b01 (may S v s h), S) else fnd S (-1000001)
def sp_worth (S : St) (s h : Int32) : Int32 × St := if isSt S s && isHo h then (wor S s h, S) else fnd S (-1000001)
def sp_stand (S : St) (v a c : Int32) : Int32 × St := if isVa S v && (isAt S a && inr c 0 99) then (if isSd S (laS S v (s_sd S).toNatClampNeg) && decide (ho a ≤ ar (s_sh S) (laS S v (s_sd S).toNatClampNeg)) then fnd S (-1000003) else if s_sd S = 24 then fnd S (-1000004) else adS S v (a / 100) (ho a) c) else fnd S (-1000001)
def sp_wrong (S : St) (n : Int32) : Int32 × St := if isSd S n then (wrS S n, S) else fnd S (-1000001)
def sp_clear (S : St) : Int32 × St := (clS S (s_sd S).toNatClampNeg, u_sd S 0)
def sp_holder (S : St) (s : Int32) : Int32 × St := if isSt S s then (if hol S s = -1 then fnd S (-1000002) else (hol S s, S)) else fnd S (-1000001)
def re10 (a : Int32) : Int32 := a - a / 10 * 10
def sp_gets (S : St) (a b s h : Int32) : Int32 × St := if isVa S a && (isVa S b && (!decide (a = b) && (decide (0 ≤ s) && (isSt S (s / 10) && (isSt S (re10 s) && isHo h))))) then (if may S a (s / 10) h && may S b (re10 s) h then (geS S a b (s / 10) (re10 s) h, S) else fnd S (-1000003)) else fnd S (-1000001)
def sp_credit (S : St) (d : Int32) : Int32 × St := if inr d 0 60 then (s_cr S, u_cr S d) else fnd S (-1000001)
def sp_bill (S : St) (c d : Int32) : Int32 × St := if inr c 1 10000 && inr d 0 1000 then (if s_bi S = 12 then fnd S (-1000004) else adB S c d) else fnd S (-1000001)
def sp_pay (S : St) (n c : Int32) : Int32 × St := if isBi S n && decide (1 ≤ c) then (if ar (s_le S) n < c then fnd S (-1000003) else (ar (s_le S) n - c, u_le S (au (s_le S) n (ar (s_le S) n - c)))) else fnd S (-1000001)
def sp_owed (S : St) (n d : Int32) : Int32 × St := if (decide (n = -1) || isBi S n) && inr d 0 2000 then (if n = -1 then owA S d (s_bi S).toNatClampNeg else owS S n d, S) else fnd S (-1000001)
def sp_tell (S : St) (v : Int32) : Int32 × St := if s_wa S = 12 then fnd S (-1000004) else (s_wa S + 1, u_wa (u_wt S (au (s_wt S) (s_wa S) v)) (s_wa S + 1))
def sp_count (S : St) (w : Int32) : Int32 × St := if w = 0 then (s_st S, S) else if w = 1 then (s_va S, S) else if w = 2 then (s_sd S, S) else if w = 3 then (s_bi S, S) else if w = 4 then (s_wa S, S) else if w = 5 then (soA S (s_va S).toNatClampNeg, S) else if w = 6 then (s_he S, S) else fnd S (-1000001)
def sp_found (S : St) (k : Int32) : Int32 × St := if inr k 1 5 then (ar (s_co S) k, S) else fnd S (-1000001)
-- calls of a van's methods, by its kind
section BU
variable {p : Program} {l : Launch} {e : Env} {R : Room} {s : State} {m : MethodId} {args : Array Value} {below : List Frame} {meth : Method} {c : Code} {H H0 : Heap} {locs : List Loc} {cells slots : Nat} {Q : State → Prop}
variable {cc : ByteArray} {nL pc : Nat} {own : String} {Z : ZT} {w : va_W} {A : Nat → Prop} {ls : Array Slot} {a : Nat}
variable {x y : MethodName} {b b0 : ByteArray} {mL m0 k n idx : Nat} {ret r0 : Option FieldType} {C : String}
theorem r_U {As : List Value} {w' : va_W} {v : Value} (rest : List Value) (E : EW p m c cc nL s args own Z) (G : GW Z w A s.heap H locs) (hM : CT l Z y b mL ret k (.ref a :: As) w (some v) w') (hl : Cond.methodLink own idx x ∈ wU) (hs : Cond.sameMethod x.cls x.cls x.name x.desc ∈ wU) (hse : Cond.selects C x y ∈ wU) (hin : Cond.instanceMethod y ∈ wU) (hxi : Cond.instanceMethod x ∈ wU) (hini : Cond.initialized y.cls ∈ wU) (hco : Cond.code y b mL ret ∈ wU) (hc0 : Cond.code x b0 m0 r0 ∈ wU) (hd : x.cls ≠ "java/lang/invoke/MethodHandle" ∧ x.cls ≠ "java/lang/invoke/VarHandle" ∧ (parseMethodDescriptor x.desc).map (fun d => d.parameters.length) = some n) (j : Nat) {ci : Nat} {fs : List Value} {T : u_T} {N : Nat} (hj : w[j]? = some (a, .inr (ci, fs))) (hcl : vwC[ci]? = some (C, T, N)) (hR : k + 1 ≤ R.frames ∧ 8 + (mL + 11) + 100 * k ≤ R.locals) {st0 : List Value} {lv : List (Nat × Value)} (hl2 : lv_has ls nL lv) (hdg : decode cc pc = .ok (.invokevirtual idx, 3)) (hst : st0 = As.reverse ++ .ref a :: rest) (hn : As.length = n) (hsum : (rest.map fun v => v.category).sum ≤ 8) (hf : cells ≤ R.cells ∧ slots ≤ R.slots)
    (kk : ∀ (H1 : Heap) (locs1 : List Loc), GW Z w' A s.heap H1 locs1 → W p l e R s m args below meth c H1 locs1 cells slots Q (F0 m (pc + 3) ls (v :: rest))) : W p l e R s m args below meth c H locs cells slots Q (F0 m pc ls st0) := by
  have hts := E.1.2.2.2.2
  have hG : GoodIn wU (va_wsO own idx C x.cls x y (Cond.code y b mL ret :: wU)) := by
    intro w hw
    have hm : w ∈ wU := by
      unfold va_wsO at hw
      simp only [List.cons_append, List.nil_append, List.mem_cons] at hw
      rcases hw with h | h | h | h | h | h | h | h
      · rw [h]; exact hl
      · rw [h]; exact hs
      · rw [h]; exact hxi
      · rw [h]; exact hse
      · rw [h]; exact hin
      · rw [h]; exact hini
      · rw [h]; exact hco
      · exact h
    exact ⟨hm, good_of_word (wU_good hm)⟩
  refine r_back G (va_runU (As := As) (rest := rest) E.1 (hM H.size) (bytes := b) (maxL := mL) (ret := ret) (n := n) (C := C) (va_cwO n hts hG rfl rfl rfl hc0 hd hR) ⟨PW.blind, va_recv E.2.1 G.1 hcl hj, PW.pre E.2 G⟩ rfl hn hl2.1 hst (lv_room hsum) hdg hf) (fun rv x H1 locs1 hp hG => by obtain ⟨rfl, rfl⟩ := hp; exact kk H1 locs1 hG)
end BU
end
section
theorem mj_min_st : Cond.static Lib.Math.min.name ∈ wU := wU_m 401 (by decide +kernel) (by decide +kernel)
theorem mj_min_co : Cond.code Lib.Math.min.name Lib.Math.min.code 2 (some .int) ∈ wU := wU_m 402 (by decide +kernel) (by decide +kernel)
theorem mj_min_X8_257 : Cond.methodLink "ConeRounds" 257 Lib.Math.min.name ∈ wU := wU_m 400 (by decide +kernel) (by decide +kernel)
theorem mj_min_X0_7 : Cond.methodLink "ConeRounds$Bike" 7 Lib.Math.min.name ∈ wU := wU_m 426 (by decide +kernel) (by decide +kernel)
theorem mj_min_X6_38 : Cond.methodLink "ConeRounds$Trail" 38 Lib.Math.min.name ∈ wU := wU_m 429 (by decide +kernel) (by decide +kernel)
theorem mj_max_st : Cond.static Lib.Math.max.name ∈ wU := wU_m 596 (by decide +kernel) (by decide +kernel)
theorem mj_max_co : Cond.code Lib.Math.max.name Lib.Math.max.code 2 (some .int) ∈ wU := wU_m 597 (by decide +kernel) (by decide +kernel)
theorem mj_max_X1_28 : Cond.methodLink "ConeRounds$Bills" 28 Lib.Math.max.name ∈ wU := wU_m 595 (by decide +kernel) (by decide +kernel)
def mso (S : St) (v w : Int32) : Int32 := if ar (s_ki S) v = 1 then (if 30 < w then 30 else w) else w
def mel (S : St) (v a : Int32) : Int32 := if ar (s_ki S) v = 1 then a / 5 else if ar (s_ki S) v = 2 then 0 else a / 10
def hac (S : St) (v w : Int32) : Int32 := if ar (s_ki S) v = 2 then 2 + w else 1 + w
theorem va_em (S : St) (v : Int32) : isVa S v = true ∨ isVa S v = false := by cases isVa S v; exact Or.inr rfl; exact Or.inl rfl
theorem va_n {S : St} {v : Int32} (h : isVa S v = true) : ¬ v < 0 ∧ ¬ s_va S ≤ v := by
  unfold isVa at h
  simp only [Bool.and_eq_true, decide_eq_true_eq] at h
  exact ⟨Int32.not_lt.mpr h.1, Int32.not_le.mpr h.2⟩
theorem va_p {S : St} {v : Int32} (h1 : ¬ v < 0) (h2 : ¬ s_va S ≤ v) : ¬ isVa S v = false := by
  unfold isVa
  simp [Int32.not_lt.mp h1, Int32.not_le.mp h2]
theorem lat_hac {S : St} {v a b : Int32} (h : ¬ a = b) : lat S v a b = hac S v (ar (s_wy S) (a * 6 + b)) := by
  unfold lat hac
  rw [if_neg h]
  by_cases k : ar (s_ki S) v = 2
  · rw [if_pos k, if_pos k, Int32.add_assoc, Int32.add_comm (ar (s_wy S) (a * 6 + b)) 1, ← Int32.add_assoc]; rfl
  · rw [if_neg k, if_neg k, Int32.add_zero]
theorem N24 {S : St} (hI : Inv S) : (s_sd S).toNatClampNeg ≤ 24 := cl_le hI.sd.1 (by have := (i_le _ _).mp hI.sd.2; have e := e_lit; omega)
theorem N4 {S : St} (hI : Inv S) : (s_va S).toNatClampNeg ≤ 4 := cl_le hI.va.1 (by have := (i_le _ _).mp hI.va.2; have e := e_lit; omega)
theorem N6 {S : St} (hI : Inv S) : (s_st S).toNatClampNeg ≤ 6 := cl_le hI.st.1 (by have := (i_le _ _).mp hI.st.2; have e := e_lit; omega)
theorem N12 {S : St} (hI : Inv S) : (s_bi S).toNatClampNeg ≤ 12 := cl_le hI.bi.1 (by have := (i_le _ _).mp hI.bi.2; have e := e_lit; omega)
theorem k_lt {x : Int32} {k : Nat} (hx : 0 ≤ x) (h : k < x.toNatClampNeg) : 0 ≤ nI k ∧ nI k < x := by
  obtain ⟨j, hj, e⟩ := nI_of (x := x) (Int32.not_lt.mpr hx)
  rw [e, nI_clamp hj] at h
  rw [e]
  exact ⟨nI_pos' (by omega), nI_lt h hj⟩
theorem bi_k {S : St} (hI : Inv S) {k : Nat} (h : k < (s_bi S).toNatClampNeg) : isBi S (nI k) = true := by
  have := k_lt hI.bi.1 h
  unfold isBi; simp [this.1, this.2]
theorem va_k {S : St} (hI : Inv S) {k : Nat} (h : k < (s_va S).toNatClampNeg) : isVa S (nI k) = true := by
  have := k_lt hI.va.1 h
  unfold isVa; simp [this.1, this.2]
theorem st_k {S : St} (hI : Inv S) {k : Nat} (h : k < (s_st S).toNatClampNeg) : isSt S (nI k) = true := by
  have := k_lt hI.st.1 h
  unfold isSt; simp [this.1, this.2]
theorem sd_k {S : St} (hI : Inv S) {k : Nat} (h : k < (s_sd S).toNatClampNeg) : isSd S (nI k) = true := by
  have := k_lt hI.sd.1 h
  unfold isSd; simp [this.1, this.2]
theorem sd_0 {S : St} {n : Int32} (h : isSd S n = true) : 0 ≤ n := by
  unfold isSd at h; simp only [Bool.and_eq_true, decide_eq_true_eq] at h; exact h.1
theorem sd_cl {S : St} (hI : Inv S) {n : Int32} (h : isSd S n = true) : n.toNatClampNeg < 24 := by
  have h1 := sd_of hI h
  obtain ⟨j, hj, e⟩ := nI_of (x := n) (Int32.not_lt.mpr (sd_0 h))
  rw [e, nI_toInt hj] at h1
  rw [e, nI_clamp hj]
  omega
set_option maxHeartbeats 4000000 in
set_option maxRecDepth 100000 in
theorem c_X7_isLicensed (l : Launch) (Z : ZT) (q : Nat → Nat) (S : St) (X : XC) (p1 : Int32) (v : Int32) (hv : isVa S v = true) : CT l Z yX7_isLicensed cX7_isLicensed 2 (some .boolean) 1 [.ref (q (24 + v.toNatClampNeg)), .int (p1)] (CW Z q S X) (some (.int (b01 (isLi S v p1)))) (CW Z q S X) := by
  refine CE.mk rfl (Nat.le_of_ble_eq_true rfl) (fun p e s m args below meth c A Qx ls E hr hlk hnm hQ G hl => ?_)
  have hx := E.1.1
  have hb := E.1.2.1
  have hl : lv_has ls 2 [(0, .ref (q (24 + v.toNatClampNeg))), (1, .int (p1))] := hl
  refine lv_aload_n hx hb dX7_isLicensed_0 rfl (lv_at hl 0 rfl) ?_
  refine hV_1 E G (hv) m_300 dX7_isLicensed_1 ?_
  refine lv_iload_n hx hb dX7_isLicensed_4 rfl (lv_at hl 1 rfl) ?_
  refine lv_ishr hx hb dX7_isLicensed_5 ?_
  refine lv_iconst (v := 1) hx hb dX7_isLicensed_6 (by decide) ?_
  refine lv_iand hx hb dX7_isLicensed_7 ?_
  refine lv_iconst (v := 1) hx hb dX7_isLicensed_8 (by decide) ?_
  refine lv_icmp_ne (tgt := 16) hx hb dX7_isLicensed_9 (by decide) (fun c_9 => ?_) (fun c_9 => ?_)
  · skip
    refine lv_iconst (v := 0) hx hb dX7_isLicensed_16 (by decide) ?_
    have hs : (isLi S v p1) = false := by first | rfl | (simp [isLi, c_9]; done) | (simp_all [isLi]; done)
    exact r_retz E G hr hlk hQ (by decide) (congrArg (fun t => some (Value.int (b01 t))) hs) rfl dX7_isLicensed_17
  · skip
    refine lv_iconst (v := 1) hx hb dX7_isLicensed_12 (by decide) ?_
    refine lv_goto (tgt := 17) hx hb dX7_isLicensed_13 (by decide) ?_
    have hs : (isLi S v p1) = true := by first | rfl | (simp [isLi, c_9]; done) | (simp_all [isLi]; done)
    exact r_retz E G hr hlk hQ (by decide) (congrArg (fun t => some (Value.int (b01 t))) hs) rfl dX7_isLicensed_17
set_option maxHeartbeats 4000000 in
set_option maxRecDepth 100000 in
theorem c_X7_mostSoldOf (l : Launch) (Z : ZT) (q : Nat → Nat) (S : St) (X : XC) (p1 : Int32) (v : Int32) (hv : isVa S v = true) : CT l Z yX7_mostSoldOf cX7_mostSoldOf 2 (some .int) 1 [.ref (q (24 + v.toNatClampNeg)), .int (p1)] (CW Z q S X) (some (.int (p1))) (CW Z q S X) := by
  refine CE.mk rfl (Nat.le_of_ble_eq_true rfl) (fun p e s m args below meth c A Qx ls E hr hlk hnm hQ G hl => ?_)
  have hx := E.1.1
  have hb := E.1.2.1
  have hl : lv_has ls 2 [(0, .ref (q (24 + v.toNatClampNeg))), (1, .int (p1))] := hl
  refine lv_iload_n hx hb dX7_mostSoldOf_0 rfl (lv_at hl 1 rfl) ?_
  have hs : (p1) = p1 := rfl
  exact r_ret E G hr hlk hQ (congrArg (fun t => some (Value.int t)) hs) rfl dX7_mostSoldOf_1
set_option maxHeartbeats 4000000 in
set_option maxRecDepth 100000 in
theorem c_X7_meltingOf (l : Launch) (Z : ZT) (q : Nat → Nat) (S : St) (X : XC) (p1 : Int32) (v : Int32) (hv : isVa S v = true) : CT l Z yX7_meltingOf cX7_meltingOf 2 (some .int) 1 [.ref (q (24 + v.toNatClampNeg)), .int (p1)] (CW Z q S X) (some (.int (p1 / 10))) (CW Z q S X) := by
  refine CE.mk rfl (Nat.le_of_ble_eq_true rfl) (fun p e s m args below meth c A Qx ls E hr hlk hnm hQ G hl => ?_)
  have hx := E.1.1
  have hb := E.1.2.1
  have hl : lv_has ls 2 [(0, .ref (q (24 + v.toNatClampNeg))), (1, .int (p1))] := hl
  refine lv_iload_n hx hb dX7_meltingOf_0 rfl (lv_at hl 1 rfl) ?_
  refine lv_bipush (v := 10) hx hb dX7_meltingOf_1 (by decide) ?_
  refine lv_idiv hx hb dX7_meltingOf_3 (by decide) ?_
  have hs : (p1 / 10) = p1 / 10 := rfl
  exact r_ret E G hr hlk hQ (congrArg (fun t => some (Value.int t)) hs) rfl dX7_meltingOf_4
set_option maxHeartbeats 4000000 in
set_option maxRecDepth 100000 in
theorem c_X7_hoursAcross (l : Launch) (Z : ZT) (q : Nat → Nat) (S : St) (X : XC) (p1 : Int32) (v : Int32) (hv : isVa S v = true) : CT l Z yX7_hoursAcross cX7_hoursAcross 2 (some .int) 1 [.ref (q (24 + v.toNatClampNeg)), .int (p1)] (CW Z q S X) (some (.int (1 + p1))) (CW Z q S X) := by
  refine CE.mk rfl (Nat.le_of_ble_eq_true rfl) (fun p e s m args below meth c A Qx ls E hr hlk hnm hQ G hl => ?_)
  have hx := E.1.1
  have hb := E.1.2.1
  have hl : lv_has ls 2 [(0, .ref (q (24 + v.toNatClampNeg))), (1, .int (p1))] := hl
  refine lv_iconst (v := 1) hx hb dX7_hoursAcross_0 (by decide) ?_
  refine lv_iload_n hx hb dX7_hoursAcross_1 rfl (lv_at hl 1 rfl) ?_
  refine lv_iadd hx hb dX7_hoursAcross_2 ?_
  have hs : (1 + p1) = 1 + p1 := rfl
  exact r_ret E G hr hlk hQ (congrArg (fun t => some (Value.int t)) hs) rfl dX7_hoursAcross_3
set_option maxHeartbeats 4000000 in
set_option maxRecDepth 100000 in
theorem c_X0_mostSoldOf (l : Launch) (Z : ZT) (q : Nat → Nat) (S : St) (X : XC) (p1 : Int32) (v : Int32) (hv : isVa S v = true) : CT l Z yX0_mostSoldOf cX0_mostSoldOf 2 (some .int) 1 [.ref (q (24 + v.toNatClampNeg)), .int (p1)] (CW Z q S X) (some (.int (if 30 < p1 then 30 else p1))) (CW Z q S X) := by
  refine CE.mk rfl (Nat.le_of_ble_eq_true rfl) (fun p e s m args below meth c A Qx ls E hr hlk hnm hQ G hl => ?_)
  have hx := E.1.1
  have hb := E.1.2.1
  have hl : lv_has ls 2 [(0, .ref (q (24 + v.toNatClampNeg))), (1, .int (p1))] := hl
  refine lv_iload_n hx hb dX0_mostSoldOf_0 rfl (lv_at hl 1 rfl) ?_
  refine lv_bipush (v := 30) hx hb dX0_mostSoldOf_1 (by decide) ?_
  refine va_mmin hx hb (E.1.2.2.1.trans hl.1.symm) E.1.2.2.2.1 (E.1.2.2.2.2 _ mj_min_X0_7) (E.1.2.2.2.2 _ mj_min_st) (E.1.2.2.2.2 _ m_52) (E.1.2.2.2.2 _ mj_min_co) (Nat.le_of_ble_eq_true rfl) (Nat.le_of_ble_eq_true rfl) (Nat.zero_le _) (Nat.zero_le _) dX0_mostSoldOf_3 ?_
  have hs : (if 30 < p1 then 30 else p1) = (if 30 < p1 then 30 else p1) := rfl
  exact r_ret E G hr hlk hQ (congrArg (fun t => some (Value.int t)) hs) rfl dX0_mostSoldOf_6
set_option maxHeartbeats 4000000 in
set_option maxRecDepth 100000 in
theorem c_X0_meltingOf (l : Launch) (Z : ZT) (q : Nat → Nat) (S : St) (X : XC) (p1 : Int32) (v : Int32) (hv : isVa S v = true) : CT l Z yX0_meltingOf cX0_meltingOf 2 (some .int) 1 [.ref (q (24 + v.toNatClampNeg)), .int (p1)] (CW Z q S X) (some (.int (p1 / 5))) (CW Z q S X) := by
  refine CE.mk rfl (Nat.le_of_ble_eq_true rfl) (fun p e s m args below meth c A Qx ls E hr hlk hnm hQ G hl => ?_)
  have hx := E.1.1
  have hb := E.1.2.1
  have hl : lv_has ls 2 [(0, .ref (q (24 + v.toNatClampNeg))), (1, .int (p1))] := hl
  refine lv_iload_n hx hb dX0_meltingOf_0 rfl (lv_at hl 1 rfl) ?_
  refine lv_iconst (v := 5) hx hb dX0_meltingOf_1 (by decide) ?_
  refine lv_idiv hx hb dX0_meltingOf_2 (by decide) ?_
  have hs : (p1 / 5) = p1 / 5 := rfl
  exact r_ret E G hr hlk hQ (congrArg (fun t => some (Value.int t)) hs) rfl dX0_meltingOf_3
set_option maxHeartbeats 4000000 in
set_option maxRecDepth 100000 in
theorem c_X2_meltingOf (l : Launch) (Z : ZT) (q : Nat → Nat) (S : St) (X : XC) (p1 : Int32) (v : Int32) (hv : isVa S v = true) : CT l Z yX2_meltingOf cX2_meltingOf 2 (some .int) 1 [.ref (q (24 + v.toNatClampNeg)), .int (p1)] (CW Z q S X) (some (.int ((0 : Int32)))) (CW Z q S X) := by
  refine CE.mk rfl (Nat.le_of_ble_eq_true rfl) (fun p e s m args below meth c A Qx ls E hr hlk hnm hQ G hl => ?_)
  have hx := E.1.1
  have hb := E.1.2.1
  have hl : lv_has ls 2 [(0, .ref (q (24 + v.toNatClampNeg))), (1, .int (p1))] := hl
  refine lv_iconst (v := 0) hx hb dX2_meltingOf_0 (by decide) ?_
  have hs : ((0 : Int32)) = 0 := rfl
  exact r_ret E G hr hlk hQ (congrArg (fun t => some (Value.int t)) hs) rfl dX2_meltingOf_1
set_option maxHeartbeats 4000000 in
set_option maxRecDepth 100000 in
theorem c_X2_hoursAcross (l : Launch) (Z : ZT) (q : Nat → Nat) (S : St) (X : XC) (p1 : Int32) (v : Int32) (hv : isVa S v = true) : CT l Z yX2_hoursAcross cX2_hoursAcross 2 (some .int) 1 [.ref (q (24 + v.toNatClampNeg)), .int (p1)] (CW Z q S X) (some (.int (2 + p1))) (CW Z q S X) := by
  refine CE.mk rfl (Nat.le_of_ble_eq_true rfl) (fun p e s m args below meth c A Qx ls E hr hlk hnm hQ G hl => ?_)
  have hx := E.1.1
  have hb := E.1.2.1
  have hl : lv_has ls 2 [(0, .ref (q (24 + v.toNatClampNeg))), (1, .int (p1))] := hl
  refine lv_iconst (v := 2) hx hb dX2_hoursAcross_0 (by decide) ?_
  refine lv_iload_n hx hb dX2_hoursAcross_1 rfl (lv_at hl 1 rfl) ?_
  refine lv_iadd hx hb dX2_hoursAcross_2 ?_
  have hs : (2 + p1) = 2 + p1 := rfl
  exact r_ret E G hr hlk hQ (congrArg (fun t => some (Value.int t)) hs) rfl dX2_hoursAcross_3
end
section
set_option maxHeartbeats 4000000 in
theorem rV_isLicensed {p : Program} {l : Launch} {e : Env} {R : Room} {s : State} {m : MethodId} {args : Array Value} {below : List Frame} {meth : Method} {c : Code} {H : Heap} {locs : List Loc} {cells slots : Nat} {Q : State → Prop} {cc : ByteArray} {nL pc : Nat} {Z : ZT} {A : Nat → Prop} {ls : Array Slot} {q : Nat → Nat} {S : St} {X : XC} {v x : Int32} (rest : List Value) (E : EW p m c cc nL s args "ConeRounds" Z) (G : GW Z (CW Z q S X) A s.heap H locs) (hv : isVa S v = true) (hR : 1 + 1 ≤ R.frames ∧ 8 + (2 + 11) + 100 * 1 ≤ R.locals) {lv : List (Nat × Value)} (hl2 : lv_has ls nL lv) (hdg : decode cc pc = .ok (.invokevirtual 237, 3)) {st0 : List Value} (hst : st0 = .int x :: .ref (q (24 + v.toNatClampNeg)) :: rest) (hsum : (rest.map fun v => v.category).sum ≤ 8) (hf : cells ≤ R.cells ∧ slots ≤ R.slots) (kk : ∀ (H1 : Heap) (locs1 : List Loc), GW Z (CW Z q S X) A s.heap H1 locs1 → W p l e R s m args below meth c H1 locs1 cells slots Q (F0 m (pc + 3) ls (.int (b01 (isLi S v x)) :: rest))) : W p l e R s m args below meth c H locs cells slots Q (F0 m pc ls st0) := by
  have hj := CW_van (Z := Z) (q := q) (S := S) (X := X) (va_lt hv)
  rcases kc_c (s_ki S v.toNatClampNeg) with ⟨h1, h⟩ | ⟨h1, h⟩ | ⟨h1, h⟩ <;> rw [h] at hj
  · exact r_U (n := 1) (As := [.int x]) rest E G (c_X7_isLicensed l Z q S X x v hv) m_353 m_356 m_357 m_354 m_354 m_49 m_359 m_359 (by decide +kernel) (24 + v.toNatClampNeg) hj rfl hR hl2 hdg hst rfl hsum hf kk
  · exact r_U (n := 1) (As := [.int x]) rest E G (c_X7_isLicensed l Z q S X x v hv) m_353 m_356 m_358 m_354 m_354 m_49 m_359 m_359 (by decide +kernel) (24 + v.toNatClampNeg) hj rfl hR hl2 hdg hst rfl hsum hf kk
  · exact r_V (As := [.int x]) rest E G (c_X7_isLicensed l Z q S X x v hv) kX7_isLicensed m_353 (24 + v.toNatClampNeg) hj rfl hR hl2 hdg hst rfl hsum hf kk
set_option maxHeartbeats 4000000 in
theorem rV_mostSoldOf {p : Program} {l : Launch} {e : Env} {R : Room} {s : State} {m : MethodId} {args : Array Value} {below : List Frame} {meth : Method} {c : Code} {H : Heap} {locs : List Loc} {cells slots : Nat} {Q : State → Prop} {cc : ByteArray} {nL pc : Nat} {Z : ZT} {A : Nat → Prop} {ls : Array Slot} {q : Nat → Nat} {S : St} {X : XC} {v x : Int32} (rest : List Value) (E : EW p m c cc nL s args "ConeRounds$Trail" Z) (G : GW Z (CW Z q S X) A s.heap H locs) (hv : isVa S v = true) (hR : 1 + 1 ≤ R.frames ∧ 8 + (2 + 11) + 100 * 1 ≤ R.locals) {lv : List (Nat × Value)} (hl2 : lv_has ls nL lv) (hdg : decode cc pc = .ok (.invokevirtual 32, 3)) {st0 : List Value} (hst : st0 = .int x :: .ref (q (24 + v.toNatClampNeg)) :: rest) (hsum : (rest.map fun v => v.category).sum ≤ 8) (hf : cells ≤ R.cells ∧ slots ≤ R.slots) (kk : ∀ (H1 : Heap) (locs1 : List Loc), GW Z (CW Z q S X) A s.heap H1 locs1 → W p l e R s m args below meth c H1 locs1 cells slots Q (F0 m (pc + 3) ls (.int (mso S v x) :: rest))) : W p l e R s m args below meth c H locs cells slots Q (F0 m pc ls st0) := by
  have hj := CW_van (Z := Z) (q := q) (S := S) (X := X) (va_lt hv)
  rcases kc_c (s_ki S v.toNatClampNeg) with ⟨h1, h⟩ | ⟨h1, h⟩ | ⟨h1, h⟩ <;> rw [h] at hj
  · have hval : mso S v x = (if 30 < x then 30 else x) := by
      have h2 : ar (s_ki S) v = s_ki S v.toNatClampNeg := rfl
      unfold mso; rw [h2]; simp [h1]
    rw [hval] at kk
    exact r_U (n := 1) (As := [.int x]) rest E G (c_X0_mostSoldOf l Z q S X x v hv) m_419 m_422 m_423 m_424 m_420 m_50 m_425 m_428 (by decide +kernel) (24 + v.toNatClampNeg) hj rfl hR hl2 hdg hst rfl hsum hf kk
  · have hval : mso S v x = x := by
      have h2 : ar (s_ki S) v = s_ki S v.toNatClampNeg := rfl
      unfold mso; rw [h2]; simp [h1]
    rw [hval] at kk
    exact r_U (n := 1) (As := [.int x]) rest E G (c_X7_mostSoldOf l Z q S X x v hv) m_419 m_422 m_427 m_420 m_420 m_49 m_428 m_428 (by decide +kernel) (24 + v.toNatClampNeg) hj rfl hR hl2 hdg hst rfl hsum hf kk
  · have hval : mso S v x = x := by
      have h2 : ar (s_ki S) v = s_ki S v.toNatClampNeg := rfl
      unfold mso; rw [h2]; simp [h1]
    rw [hval] at kk
    exact r_V (As := [.int x]) rest E G (c_X7_mostSoldOf l Z q S X x v hv) kX7_mostSoldOf m_419 (24 + v.toNatClampNeg) hj rfl hR hl2 hdg hst rfl hsum hf kk
set_option maxHeartbeats 4000000 in
theorem rV_meltingOf {p : Program} {l : Launch} {e : Env} {R : Room} {s : State} {m : MethodId} {args : Array Value} {below : List Frame} {meth : Method} {c : Code} {H : Heap} {locs : List Loc} {cells slots : Nat} {Q : State → Prop} {cc : ByteArray} {nL pc : Nat} {Z : ZT} {A : Nat → Prop} {ls : Array Slot} {q : Nat → Nat} {S : St} {X : XC} {v x : Int32} (rest : List Value) (E : EW p m c cc nL s args "ConeRounds$Trail" Z) (G : GW Z (CW Z q S X) A s.heap H locs) (hv : isVa S v = true) (hR : 1 + 1 ≤ R.frames ∧ 8 + (2 + 11) + 100 * 1 ≤ R.locals) {lv : List (Nat × Value)} (hl2 : lv_has ls nL lv) (hdg : decode cc pc = .ok (.invokevirtual 44, 3)) {st0 : List Value} (hst : st0 = .int x :: .ref (q (24 + v.toNatClampNeg)) :: rest) (hsum : (rest.map fun v => v.category).sum ≤ 8) (hf : cells ≤ R.cells ∧ slots ≤ R.slots) (kk : ∀ (H1 : Heap) (locs1 : List Loc), GW Z (CW Z q S X) A s.heap H1 locs1 → W p l e R s m args below meth c H1 locs1 cells slots Q (F0 m (pc + 3) ls (.int (mel S v x) :: rest))) : W p l e R s m args below meth c H locs cells slots Q (F0 m pc ls st0) := by
  have hj := CW_van (Z := Z) (q := q) (S := S) (X := X) (va_lt hv)
  rcases kc_c (s_ki S v.toNatClampNeg) with ⟨h1, h⟩ | ⟨h1, h⟩ | ⟨h1, h⟩ <;> rw [h] at hj
  · have hval : mel S v x = x / 5 := by
      have h2 : ar (s_ki S) v = s_ki S v.toNatClampNeg := rfl
      unfold mel; rw [h2]; simp [h1]
    rw [hval] at kk
    exact r_U (n := 1) (As := [.int x]) rest E G (c_X0_meltingOf l Z q S X x v hv) m_430 m_433 m_434 m_435 m_431 m_50 m_436 m_440 (by decide +kernel) (24 + v.toNatClampNeg) hj rfl hR hl2 hdg hst rfl hsum hf kk
  · have hval : mel S v x = 0 := by
      have h2 : ar (s_ki S) v = s_ki S v.toNatClampNeg := rfl
      unfold mel; rw [h2]; simp [h1]
    rw [hval] at kk
    exact r_U (n := 1) (As := [.int x]) rest E G (c_X2_meltingOf l Z q S X x v hv) m_430 m_433 m_437 m_438 m_431 m_51 m_439 m_440 (by decide +kernel) (24 + v.toNatClampNeg) hj rfl hR hl2 hdg hst rfl hsum hf kk
  · have hval : mel S v x = x / 10 := by
      have h2 : ar (s_ki S) v = s_ki S v.toNatClampNeg := rfl
      unfold mel; rw [h2]; simp [h1]
    rw [hval] at kk
    exact r_V (As := [.int x]) rest E G (c_X7_meltingOf l Z q S X x v hv) kX7_meltingOf m_430 (24 + v.toNatClampNeg) hj rfl hR hl2 hdg hst rfl hsum hf kk
set_option maxHeartbeats 4000000 in
theorem rV_hoursAcross {p : Program} {l : Launch} {e : Env} {R : Room} {s : State} {m : MethodId} {args : Array Value} {below : List Frame} {meth : Method} {c : Code} {H : Heap} {locs : List Loc} {cells slots : Nat} {Q : State → Prop} {cc : ByteArray} {nL pc : Nat} {Z : ZT} {A : Nat → Prop} {ls : Array Slot} {q : Nat → Nat} {S : St} {X : XC} {v x : Int32} (rest : List Value) (E : EW p m c cc nL s args "ConeRounds" Z) (G : GW Z (CW Z q S X) A s.heap H locs) (hv : isVa S v = true) (hR : 1 + 1 ≤ R.frames ∧ 8 + (2 + 11) + 100 * 1 ≤ R.locals) {lv : List (Nat × Value)} (hl2 : lv_has ls nL lv) (hdg : decode cc pc = .ok (.invokevirtual 250, 3)) {st0 : List Value} (hst : st0 = .int x :: .ref (q (24 + v.toNatClampNeg)) :: rest) (hsum : (rest.map fun v => v.category).sum ≤ 8) (hf : cells ≤ R.cells ∧ slots ≤ R.slots) (kk : ∀ (H1 : Heap) (locs1 : List Loc), GW Z (CW Z q S X) A s.heap H1 locs1 → W p l e R s m args below meth c H1 locs1 cells slots Q (F0 m (pc + 3) ls (.int (hac S v x) :: rest))) : W p l e R s m args below meth c H locs cells slots Q (F0 m pc ls st0) := by
  have hj := CW_van (Z := Z) (q := q) (S := S) (X := X) (va_lt hv)
  rcases kc_c (s_ki S v.toNatClampNeg) with ⟨h1, h⟩ | ⟨h1, h⟩ | ⟨h1, h⟩ <;> rw [h] at hj
  · have hval : hac S v x = 1 + x := by
      have h2 : ar (s_ki S) v = s_ki S v.toNatClampNeg := rfl
      unfold hac; rw [h2]; simp [h1]
    rw [hval] at kk
    exact r_U (n := 1) (As := [.int x]) rest E G (c_X7_hoursAcross l Z q S X x v hv) m_449 m_452 m_453 m_450 m_450 m_49 m_457 m_457 (by decide +kernel) (24 + v.toNatClampNeg) hj rfl hR hl2 hdg hst rfl hsum hf kk
  · have hval : hac S v x = 2 + x := by
      have h2 : ar (s_ki S) v = s_ki S v.toNatClampNeg := rfl
      unfold hac; rw [h2]; simp [h1]
    rw [hval] at kk
    exact r_U (n := 1) (As := [.int x]) rest E G (c_X2_hoursAcross l Z q S X x v hv) m_449 m_452 m_454 m_455 m_450 m_51 m_456 m_457 (by decide +kernel) (24 + v.toNatClampNeg) hj rfl hR hl2 hdg hst rfl hsum hf kk
  · have hval : hac S v x = 1 + x := by
      have h2 : ar (s_ki S) v = s_ki S v.toNatClampNeg := rfl
      unfold hac; rw [h2]; simp [h1]
    rw [hval] at kk
    exact r_V (As := [.int x]) rest E G (c_X7_hoursAcross l Z q S X x v hv) kX7_hoursAcross m_449 (24 + v.toNatClampNeg) hj rfl hR hl2 hdg hst rfl hsum hf kk
end
section
set_option maxHeartbeats 4000000 in
set_option maxRecDepth 100000 in
theorem c_X4_add (l : Launch) (Z : ZT) (q : Nat → Nat) (S : St) (X : XC) (p1 p2 p3 p4 : Int32) (hI : Inv S) (h1 : s_sd S < 24) : CT l Z yX4_add cX4_add 5 (some .int) 1 [.ref (q 7), .int (p1), .int (p2), .int (p3), .int (p4)] (CW Z q S X) (some (.int ((adS S p1 p2 p3 p4).1))) (CW Z q ((adS S p1 p2 p3 p4).2) (X)) := by
  refine CE.mk rfl (Nat.le_of_ble_eq_true rfl) (fun p e s m args below meth c A Qx ls E hr hlk hnm hQ G hl => ?_)
  have hx := E.1.1
  have hb := E.1.2.1
  have hl : lv_has ls 5 [(0, .ref (q 7)), (1, .int (p1)), (2, .int (p2)), (3, .int (p3)), (4, .int (p4))] := hl
  refine lv_aload_n hx hb dX4_add_0 rfl (lv_at hl 0 rfl) ?_
  refine gC_7_0 E G m_142 dX4_add_1 ?_
  refine lv_aload_n hx hb dX4_add_4 rfl (lv_at hl 0 rfl) ?_
  refine gC_7_4 E G m_150 dX4_add_5 ?_
  refine lv_iload_n hx hb dX4_add_8 rfl (lv_at hl 1 rfl) ?_
  refine tC_17 E G (ix_lim hI.sd.1 h1 (by decide)) dX4_add_9 (fun H locs G => ?_)
  refine lv_aload_n hx hb dX4_add_10 rfl (lv_at hl 0 rfl) ?_
  refine gC_7_1 E G m_144 dX4_add_11 ?_
  refine lv_aload_n hx hb dX4_add_14 rfl (lv_at hl 0 rfl) ?_
  refine gC_7_4 E G m_150 dX4_add_15 ?_
  refine lv_topc (e_s_sd_sv _ _) ?_
  refine lv_iload_n hx hb dX4_add_18 rfl (lv_at hl 2 rfl) ?_
  refine tC_18 E G (ix_lim hI.sd.1 h1 (by decide)) dX4_add_19 (fun H locs G => ?_)
  have G := GW.cast (congrArg (fun f => CW Z q (u_ss (u_sv S (au (s_sv S) (s_sd S) p1)) (au f (s_sd S) p2)) (X)) (e_s_ss_sv _ _)) G
  refine lv_aload_n hx hb dX4_add_20 rfl (lv_at hl 0 rfl) ?_
  refine gC_7_2 E G m_146 dX4_add_21 ?_
  refine lv_aload_n hx hb dX4_add_24 rfl (lv_at hl 0 rfl) ?_
  refine gC_7_4 E G m_150 dX4_add_25 ?_
  refine lv_topc ((e_s_sd_ss _ _).trans (e_s_sd_sv _ _)) ?_
  refine lv_iload_n hx hb dX4_add_28 rfl (lv_at hl 3 rfl) ?_
  refine tC_19 E G (ix_lim hI.sd.1 h1 (by decide)) dX4_add_29 (fun H locs G => ?_)
  have G := GW.cast (congrArg (fun f => CW Z q (u_sh (u_ss (u_sv S (au (s_sv S) (s_sd S) p1)) (au (s_ss S) (s_sd S) p2)) (au f (s_sd S) p3)) (X)) ((e_s_sh_ss _ _).trans (e_s_sh_sv _ _))) G
  refine lv_aload_n hx hb dX4_add_30 rfl (lv_at hl 0 rfl) ?_
  refine gC_7_3 E G m_148 dX4_add_31 ?_
  refine lv_aload_n hx hb dX4_add_34 rfl (lv_at hl 0 rfl) ?_
  refine gC_7_4 E G m_150 dX4_add_35 ?_
  refine lv_topc ((e_s_sd_sh _ _).trans ((e_s_sd_ss _ _).trans (e_s_sd_sv _ _))) ?_
  refine lv_iload hx hb dX4_add_38 (lv_at hl 4 rfl) ?_
  refine tC_20 E G (ix_lim hI.sd.1 h1 (by decide)) dX4_add_40 (fun H locs G => ?_)
  have G := GW.cast (congrArg (fun f => CW Z q (u_sm (u_sh (u_ss (u_sv S (au (s_sv S) (s_sd S) p1)) (au (s_ss S) (s_sd S) p2)) (au (s_sh S) (s_sd S) p3)) (au f (s_sd S) p4)) (X)) ((e_s_sm_sh _ _).trans ((e_s_sm_ss _ _).trans (e_s_sm_sv _ _)))) G
  refine lv_aload_n hx hb dX4_add_41 rfl (lv_at hl 0 rfl) ?_
  refine lv_dup hx hb dX4_add_42 rfl ?_
  refine gC_7_4 E G m_150 dX4_add_43 ?_
  refine lv_topc ((e_s_sd_sm _ _).trans ((e_s_sd_sh _ _).trans ((e_s_sd_ss _ _).trans (e_s_sd_sv _ _)))) ?_
  refine lv_iconst (v := 1) hx hb dX4_add_46 (by decide) ?_
  refine lv_iadd hx hb dX4_add_47 ?_
  refine pC_7_4 E G m_150 dX4_add_48 (fun H locs G => ?_)
  refine lv_aload_n hx hb dX4_add_51 rfl (lv_at hl 0 rfl) ?_
  refine gC_7_4 E G m_150 dX4_add_52 ?_
  refine lv_topc (es_s_sd _ _) ?_
  refine lv_iconst (v := 1) hx hb dX4_add_55 (by decide) ?_
  refine lv_isub hx hb dX4_add_56 ?_
  have hs : (adS S p1 p2 p3 p4) = (((s_sd S) + 1) - 1, u_sd (u_sm (u_sh (u_ss (u_sv S (au (s_sv S) (s_sd S) p1)) (au (s_ss S) (s_sd S) p2)) (au (s_sh S) (s_sd S) p3)) (au (s_sm S) (s_sd S) p4)) ((s_sd S) + 1)) := rfl
  exact r_ret E G hr hlk hQ (by rw [hs]) (by rw [hs]) dX4_add_57
set_option maxHeartbeats 4000000 in
set_option maxRecDepth 100000 in
theorem c_X1_add (l : Launch) (Z : ZT) (q : Nat → Nat) (S : St) (X : XC) (p1 p2 : Int32) (hI : Inv S) (h1 : s_bi S < 12) : CT l Z yX1_add cX1_add 3 (some .int) 1 [.ref (q 8), .int (p1), .int (p2)] (CW Z q S X) (some (.int ((adB S p1 p2).1))) (CW Z q ((adB S p1 p2).2) (X)) := by
  refine CE.mk rfl (Nat.le_of_ble_eq_true rfl) (fun p e s m args below meth c A Qx ls E hr hlk hnm hQ G hl => ?_)
  have hx := E.1.1
  have hb := E.1.2.1
  have hl : lv_has ls 3 [(0, .ref (q 8)), (1, .int (p1)), (2, .int (p2))] := hl
  refine lv_aload_n hx hb dX1_add_0 rfl (lv_at hl 0 rfl) ?_
  refine gC_8_0 E G m_169 dX1_add_1 ?_
  refine lv_aload_n hx hb dX1_add_4 rfl (lv_at hl 0 rfl) ?_
  refine gC_8_3 E G m_173 dX1_add_5 ?_
  refine lv_iload_n hx hb dX1_add_8 rfl (lv_at hl 1 rfl) ?_
  refine tC_21 E G (ix_lim hI.bi.1 h1 (by decide)) dX1_add_9 (fun H locs G => ?_)
  refine lv_aload_n hx hb dX1_add_10 rfl (lv_at hl 0 rfl) ?_
  refine gC_8_1 E G m_171 dX1_add_11 ?_
  refine lv_aload_n hx hb dX1_add_14 rfl (lv_at hl 0 rfl) ?_
  refine gC_8_3 E G m_173 dX1_add_15 ?_
  refine lv_topc (e_s_bi_le _ _) ?_
  refine lv_iload_n hx hb dX1_add_18 rfl (lv_at hl 2 rfl) ?_
  refine tC_22 E G (ix_lim hI.bi.1 h1 (by decide)) dX1_add_19 (fun H locs G => ?_)
  have G := GW.cast (congrArg (fun f => CW Z q (u_bd (u_le S (au (s_le S) (s_bi S) p1)) (au f (s_bi S) p2)) (X)) (e_s_bd_le _ _)) G
  refine lv_aload_n hx hb dX1_add_20 rfl (lv_at hl 0 rfl) ?_
  refine gC_8_2 E G m_172 dX1_add_21 ?_
  refine lv_aload_n hx hb dX1_add_24 rfl (lv_at hl 0 rfl) ?_
  refine gC_8_3 E G m_173 dX1_add_25 ?_
  refine lv_topc ((e_s_bi_bd _ _).trans (e_s_bi_le _ _)) ?_
  refine lv_iload_n hx hb dX1_add_28 rfl (lv_at hl 2 rfl) ?_
  refine lv_aload_n hx hb dX1_add_29 rfl (lv_at hl 0 rfl) ?_
  refine gC_8_4 E G m_175 dX1_add_30 ?_
  refine lv_topc ((e_s_cr_bd _ _).trans (e_s_cr_le _ _)) ?_
  refine lv_iadd hx hb dX1_add_33 ?_
  refine tC_23 E G (ix_lim hI.bi.1 h1 (by decide)) dX1_add_34 (fun H locs G => ?_)
  have G := GW.cast (congrArg (fun f => CW Z q (u_du (u_bd (u_le S (au (s_le S) (s_bi S) p1)) (au (s_bd S) (s_bi S) p2)) (au f (s_bi S) (p2 + (s_cr S)))) (X)) ((e_s_du_bd _ _).trans (e_s_du_le _ _))) G
  refine lv_aload_n hx hb dX1_add_35 rfl (lv_at hl 0 rfl) ?_
  refine lv_dup hx hb dX1_add_36 rfl ?_
  refine gC_8_3 E G m_173 dX1_add_37 ?_
  refine lv_topc ((e_s_bi_du _ _).trans ((e_s_bi_bd _ _).trans (e_s_bi_le _ _))) ?_
  refine lv_iconst (v := 1) hx hb dX1_add_40 (by decide) ?_
  refine lv_iadd hx hb dX1_add_41 ?_
  refine pC_8_3 E G m_173 dX1_add_42 (fun H locs G => ?_)
  refine lv_aload_n hx hb dX1_add_45 rfl (lv_at hl 0 rfl) ?_
  refine gC_8_3 E G m_173 dX1_add_46 ?_
  refine lv_topc (es_s_bi _ _) ?_
  refine lv_iconst (v := 1) hx hb dX1_add_49 (by decide) ?_
  refine lv_isub hx hb dX1_add_50 ?_
  have hs : (adB S p1 p2) = (((s_bi S) + 1) - 1, u_bi (u_du (u_bd (u_le S (au (s_le S) (s_bi S) p1)) (au (s_bd S) (s_bi S) p2)) (au (s_du S) (s_bi S) (p2 + (s_cr S)))) ((s_bi S) + 1)) := rfl
  exact r_ret E G hr hlk hQ (by rw [hs]) (by rw [hs]) dX1_add_51
set_option maxHeartbeats 4000000 in
set_option maxRecDepth 100000 in
theorem c_X4_isTaken (l : Launch) (Z : ZT) (q : Nat → Nat) (S : St) (X : XC) (p1 : Int32) (hI : Inv S) (h1 : isSd S p1 = true) : CT l Z yX4_isTaken cX4_isTaken 3 (some .boolean) 1 [.ref (q 7), .int (p1)] (CW Z q S X) (some (.int (b01 (taS S (ar (s_ss S) p1) (ar (s_sh S) p1) p1.toNatClampNeg)))) (CW Z q S X) := by
  refine CE.mk rfl (Nat.le_of_ble_eq_true rfl) (fun p e s m args below meth c A Qx ls E hr hlk hnm hQ G hl => ?_)
  have hx := E.1.1
  have hb := E.1.2.1
  have hl : lv_has ls 3 [(0, .ref (q 7)), (1, .int (p1))] := hl
  have h0 := sd_0 h1
  have h24 := sd_cl hI h1
  refine lv_iconst (v := 0) hx hb dX4_isTaken_0 (by decide) ?_
  refine lv_istore_n (lv' := [(2, .int (0)), (0, .ref (q 7)), (1, .int (p1))]) hx hb dX4_isTaken_1 rfl hl (by decide) rfl (fun ls hl => ?_)
  have L2 : ∀ k : Nat, k ≤ p1.toNatClampNeg → (∀ (H : Heap) (locs : List Loc) (ls : Array Slot), taS S (ar (s_ss S) p1) (ar (s_sh S) p1) k = false → GW Z (CW Z q S X) A s.heap H locs → lv_has ls 3 [(0, .ref (q 7)), (1, .int (p1)), (2, .int (nI k))] → W p l e (rmk 1 0 0) s m args below meth c H locs 0 0 Qx (F0 m 2 ls [])) := by
    refine up_in2 (P := fun k => (∀ (H : Heap) (locs : List Loc) (ls : Array Slot), taS S (ar (s_ss S) p1) (ar (s_sh S) p1) k = false → GW Z (CW Z q S X) A s.heap H locs → lv_has ls 3 [(0, .ref (q 7)), (1, .int (p1)), (2, .int (nI k))] → W p l e (rmk 1 0 0) s m args below meth c H locs 0 0 Qx (F0 m 2 ls []))) (p1.toNatClampNeg) ?_
    intro k hkk ih2 H locs ls hT G hl
    refine lv_iload_n hx hb dX4_isTaken_2 rfl (lv_at hl 2 rfl) ?_
    refine lv_iload_n hx hb dX4_isTaken_3 rfl (lv_at hl 1 rfl) ?_
    refine lv_icmp_ge (tgt := 45) hx hb dX4_isTaken_4 (by decide) (fun c_4 => ?_) (fun c_4 => ?_)
    · skip
      have c_4n := Int32.not_lt.mpr c_4
      refine lv_iconst (v := 0) hx hb dX4_isTaken_45 (by decide) ?_
      have hs : (taS S (ar (s_ss S) p1) (ar (s_sh S) p1) p1.toNatClampNeg) = false := by rw [← lp_eq h0 hkk c_4]; exact hT
      exact r_retz E G hr hlk hQ (by decide) (congrArg (fun t => some (Value.int (b01 t))) hs) rfl dX4_isTaken_46
    · skip
      have c_4n := Int32.not_le.mp c_4
      refine lv_aload_n hx hb dX4_isTaken_7 rfl (lv_at hl 0 rfl) ?_
      refine gC_7_1 E G m_144 dX4_isTaken_8 ?_
      refine lv_iload_n hx hb dX4_isTaken_11 rfl (lv_at hl 2 rfl) ?_
      refine aC_18 E G (ix_k (lp_lt h0 hkk c_4) (Nat.le_of_lt h24) (by decide)) dX4_isTaken_12 ?_
      refine lv_aload_n hx hb dX4_isTaken_13 rfl (lv_at hl 0 rfl) ?_
      refine gC_7_1 E G m_144 dX4_isTaken_14 ?_
      refine lv_iload_n hx hb dX4_isTaken_17 rfl (lv_at hl 1 rfl) ?_
      refine aC_18 E G (ix_sd hI h1) dX4_isTaken_18 ?_
      refine lv_icmp_ne (tgt := 39) hx hb dX4_isTaken_19 (by decide) (fun c_19 => ?_) (fun c_19 => ?_)
      · skip
        refine lv_iinc (v := (nI k) + 1) (lv' := [(2, .int ((nI k) + 1)), (0, .ref (q 7)), (1, .int (p1))]) hx hb dX4_isTaken_39 hl (k := 2) rfl rfl (by decide) rfl (fun ls hl => ?_)
        refine lv_goto (tgt := 2) hx hb dX4_isTaken_42 (by decide) ?_
        exact ih2 (lp_lt h0 hkk c_4) _ _ _ (by simp only [ar_nI _ (show k < 2 ^ 31 by omega)] at c_4 c_4n c_19; simp [taS, c_4, c_4n, c_19, hT]) (GW.cast (rfl) G) (lv_cast (lv_sub (l' := [(0, .ref (q 7)), (1, .int (p1)), (2, .int ((nI k) + 1))]) hl [1, 2, 0] rfl) (by rw [nI_1]))
      · skip
        refine lv_aload_n hx hb dX4_isTaken_22 rfl (lv_at hl 0 rfl) ?_
        refine gC_7_2 E G m_146 dX4_isTaken_23 ?_
        refine lv_iload_n hx hb dX4_isTaken_26 rfl (lv_at hl 2 rfl) ?_
        refine aC_19 E G (ix_k (lp_lt h0 hkk c_4) (Nat.le_of_lt h24) (by decide)) dX4_isTaken_27 ?_
        refine lv_aload_n hx hb dX4_isTaken_28 rfl (lv_at hl 0 rfl) ?_
        refine gC_7_2 E G m_146 dX4_isTaken_29 ?_
        refine lv_iload_n hx hb dX4_isTaken_32 rfl (lv_at hl 1 rfl) ?_
        refine aC_19 E G (ix_sd hI h1) dX4_isTaken_33 ?_
        refine lv_icmp_ne (tgt := 39) hx hb dX4_isTaken_34 (by decide) (fun c_34 => ?_) (fun c_34 => ?_)
        · skip
          refine lv_iinc (v := (nI k) + 1) (lv' := [(2, .int ((nI k) + 1)), (0, .ref (q 7)), (1, .int (p1))]) hx hb dX4_isTaken_39 hl (k := 2) rfl rfl (by decide) rfl (fun ls hl => ?_)
          refine lv_goto (tgt := 2) hx hb dX4_isTaken_42 (by decide) ?_
          exact ih2 (lp_lt h0 hkk c_4) _ _ _ (by simp only [ar_nI _ (show k < 2 ^ 31 by omega)] at c_4 c_4n c_19 c_34; simp [taS, c_4, c_4n, c_19, c_34, hT]) (GW.cast (rfl) G) (lv_cast (lv_sub (l' := [(0, .ref (q 7)), (1, .int (p1)), (2, .int ((nI k) + 1))]) hl [1, 2, 0] rfl) (by rw [nI_1]))
        · skip
          refine lv_iconst (v := 1) hx hb dX4_isTaken_37 (by decide) ?_
          have hs : (taS S (ar (s_ss S) p1) (ar (s_sh S) p1) p1.toNatClampNeg) = true := taS_mono (k := k + 1) (by simp only [ar_nI _ (show k < 2 ^ 31 by omega)] at c_4 c_4n c_19 c_34; simp [taS, c_4, c_4n, c_19, c_34]) _ (lp_lt h0 hkk c_4)
          exact r_retz E G hr hlk hQ (by decide) (congrArg (fun t => some (Value.int (b01 t))) hs) rfl dX4_isTaken_38
  exact L2 0 (Nat.zero_le _) _ _ _ (rfl) (GW.cast (rfl) G) (lv_cast (lv_sub (l' := [(0, .ref (q 7)), (1, .int (p1)), (2, .int (0))]) hl [1, 2, 0] rfl) (by rw [nI_0]))
set_option maxHeartbeats 4000000 in
set_option maxRecDepth 100000 in
theorem c_X4_countOf (l : Launch) (Z : ZT) (q : Nat → Nat) (S : St) (X : XC) (p1 p2 : Int32) (hI : Inv S) : CT l Z yX4_countOf cX4_countOf 5 (some .int) 1 [.ref (q 7), .int (p1), .int (p2)] (CW Z q S X) (some (.int (coS S p1 p2 (s_sd S).toNatClampNeg))) (CW Z q S X) := by
  refine CE.mk rfl (Nat.le_of_ble_eq_true rfl) (fun p e s m args below meth c A Qx ls E hr hlk hnm hQ G hl => ?_)
  have hx := E.1.1
  have hb := E.1.2.1
  have hl : lv_has ls 5 [(0, .ref (q 7)), (1, .int (p1)), (2, .int (p2))] := hl
  have h24 := N24 hI
  have h0 := hI.sd.1
  refine lv_iconst (v := 0) hx hb dX4_countOf_0 (by decide) ?_
  refine lv_istore_n (lv' := [(3, .int (0)), (0, .ref (q 7)), (1, .int (p1)), (2, .int (p2))]) hx hb dX4_countOf_1 rfl hl (by decide) rfl (fun ls hl => ?_)
  refine lv_iconst (v := 0) hx hb dX4_countOf_2 (by decide) ?_
  refine lv_istore (lv' := [(4, .int (0)), (3, .int (0)), (0, .ref (q 7)), (1, .int (p1)), (2, .int (p2))]) hx hb dX4_countOf_3 hl (by decide) rfl (fun ls hl => ?_)
  have L5 : ∀ k : Nat, k ≤ (s_sd S).toNatClampNeg → (∀ (H : Heap) (locs : List Loc) (ls : Array Slot), GW Z (CW Z q S X) A s.heap H locs → lv_has ls 5 [(0, .ref (q 7)), (1, .int (p1)), (2, .int (p2)), (3, .int (coS S p1 p2 k)), (4, .int (nI k))] → W p l e (rmk 1 0 0) s m args below meth c H locs 0 0 Qx (F0 m 5 ls [])) := by
    refine up_in2 (P := fun k => (∀ (H : Heap) (locs : List Loc) (ls : Array Slot), GW Z (CW Z q S X) A s.heap H locs → lv_has ls 5 [(0, .ref (q 7)), (1, .int (p1)), (2, .int (p2)), (3, .int (coS S p1 p2 k)), (4, .int (nI k))] → W p l e (rmk 1 0 0) s m args below meth c H locs 0 0 Qx (F0 m 5 ls []))) ((s_sd S).toNatClampNeg) ?_
    intro k hkk ih5 H locs ls G hl
    refine lv_iload hx hb dX4_countOf_5 (lv_at hl 4 rfl) ?_
    refine lv_aload_n hx hb dX4_countOf_7 rfl (lv_at hl 0 rfl) ?_
    refine gC_7_4 E G m_150 dX4_countOf_8 ?_
    refine lv_icmp_ge (tgt := 45) hx hb dX4_countOf_11 (by decide) (fun c_11 => ?_) (fun c_11 => ?_)
    · skip
      have c_11n := Int32.not_lt.mpr c_11
      refine lv_iload_n hx hb dX4_countOf_45 rfl (lv_at hl 3 rfl) ?_
      have hs : (coS S p1 p2 (s_sd S).toNatClampNeg) = coS S p1 p2 k := by rw [lp_eq h0 hkk c_11]
      exact r_ret E G hr hlk hQ (congrArg (fun t => some (Value.int t)) hs) rfl dX4_countOf_46
    · skip
      have c_11n := Int32.not_le.mp c_11
      refine lv_aload_n hx hb dX4_countOf_14 rfl (lv_at hl 0 rfl) ?_
      refine gC_7_0 E G m_142 dX4_countOf_15 ?_
      refine lv_iload hx hb dX4_countOf_18 (lv_at hl 4 rfl) ?_
      refine aC_17 E G (ix_k (lp_lt h0 hkk c_11) h24 (by decide)) dX4_countOf_20 ?_
      refine lv_iload_n hx hb dX4_countOf_21 rfl (lv_at hl 1 rfl) ?_
      refine lv_icmp_ne (tgt := 39) hx hb dX4_countOf_22 (by decide) (fun c_22 => ?_) (fun c_22 => ?_)
      · skip
        refine lv_iinc (v := (nI k) + 1) (lv' := [(4, .int ((nI k) + 1)), (0, .ref (q 7)), (1, .int (p1)), (2, .int (p2)), (3, .int (coS S p1 p2 k))]) hx hb dX4_countOf_39 hl (k := 4) rfl rfl (by decide) rfl (fun ls hl => ?_)
        refine lv_goto (tgt := 5) hx hb dX4_countOf_42 (by decide) ?_
        exact ih5 (lp_lt h0 hkk c_11) _ _ _ (GW.cast (rfl) G) (lv_cast (lv_sub (l' := [(0, .ref (q 7)), (1, .int (p1)), (2, .int (p2)), (3, .int (coS S p1 p2 k)), (4, .int ((nI k) + 1))]) hl [1, 2, 3, 4, 0] rfl) (by simp only [ar_nI _ (show k < 2 ^ 31 by omega)] at c_11 c_11n c_22; simp [nI_1, coS, c_11, c_11n, c_22]))
      · skip
        refine lv_aload_n hx hb dX4_countOf_25 rfl (lv_at hl 0 rfl) ?_
        refine gC_7_1 E G m_144 dX4_countOf_26 ?_
        refine lv_iload hx hb dX4_countOf_29 (lv_at hl 4 rfl) ?_
        refine aC_18 E G (ix_k (lp_lt h0 hkk c_11) h24 (by decide)) dX4_countOf_31 ?_
        refine lv_iload_n hx hb dX4_countOf_32 rfl (lv_at hl 2 rfl) ?_
        refine lv_icmp_ne (tgt := 39) hx hb dX4_countOf_33 (by decide) (fun c_33 => ?_) (fun c_33 => ?_)
        · skip
          refine lv_iinc (v := (nI k) + 1) (lv' := [(4, .int ((nI k) + 1)), (0, .ref (q 7)), (1, .int (p1)), (2, .int (p2)), (3, .int (coS S p1 p2 k))]) hx hb dX4_countOf_39 hl (k := 4) rfl rfl (by decide) rfl (fun ls hl => ?_)
          refine lv_goto (tgt := 5) hx hb dX4_countOf_42 (by decide) ?_
          exact ih5 (lp_lt h0 hkk c_11) _ _ _ (GW.cast (rfl) G) (lv_cast (lv_sub (l' := [(0, .ref (q 7)), (1, .int (p1)), (2, .int (p2)), (3, .int (coS S p1 p2 k)), (4, .int ((nI k) + 1))]) hl [1, 2, 3, 4, 0] rfl) (by simp only [ar_nI _ (show k < 2 ^ 31 by omega)] at c_11 c_11n c_22 c_33; simp [nI_1, coS, c_11, c_11n, c_22, c_33]))
        · skip
          refine lv_iinc (v := (coS S p1 p2 k) + 1) (lv' := [(3, .int ((coS S p1 p2 k) + 1)), (0, .ref (q 7)), (1, .int (p1)), (2, .int (p2)), (4, .int (nI k))]) hx hb dX4_countOf_36 hl (k := 3) rfl rfl (by decide) rfl (fun ls hl => ?_)
          refine lv_iinc (v := (nI k) + 1) (lv' := [(4, .int ((nI k) + 1)), (3, .int ((coS S p1 p2 k) + 1)), (0, .ref (q 7)), (1, .int (p1)), (2, .int (p2))]) hx hb dX4_countOf_39 hl (k := 4) rfl rfl (by decide) rfl (fun ls hl => ?_)
          refine lv_goto (tgt := 5) hx hb dX4_countOf_42 (by decide) ?_
          exact ih5 (lp_lt h0 hkk c_11) _ _ _ (GW.cast (rfl) G) (lv_cast (lv_sub (l' := [(0, .ref (q 7)), (1, .int (p1)), (2, .int (p2)), (3, .int ((coS S p1 p2 k) + 1)), (4, .int ((nI k) + 1))]) hl [2, 3, 4, 1, 0] rfl) (by simp only [ar_nI _ (show k < 2 ^ 31 by omega)] at c_11 c_11n c_22 c_33; simp [nI_1, coS, c_11, c_11n, c_22, c_33]))
  exact L5 0 (Nat.zero_le _) _ _ _ (GW.cast (rfl) G) (lv_cast (lv_sub (l' := [(0, .ref (q 7)), (1, .int (p1)), (2, .int (p2)), (3, .int (0)), (4, .int (0))]) hl [2, 3, 4, 1, 0] rfl) (by rw [nI_0]; rfl))
set_option maxHeartbeats 4000000 in
set_option maxRecDepth 100000 in
theorem c_X1_owedOf (l : Launch) (Z : ZT) (q : Nat → Nat) (S : St) (X : XC) (p1 p2 : Int32) (hI : Inv S) (h1 : isBi S p1 = true) : CT l Z yX1_owedOf cX1_owedOf 4 (some .int) 2 [.ref (q 8), .int (p1), .int (p2)] (CW Z q S X) (some (.int (owS S p1 p2))) (CW Z q S X) := by
  refine CE.mk rfl (Nat.le_of_ble_eq_true rfl) (fun p e s m args below meth c A Qx ls E hr hlk hnm hQ G hl => ?_)
  have hx := E.1.1
  have hb := E.1.2.1
  have hl : lv_has ls 4 [(0, .ref (q 8)), (1, .int (p1)), (2, .int (p2))] := hl
  refine lv_iload_n hx hb dX1_owedOf_0 rfl (lv_at hl 2 rfl) ?_
  refine lv_aload_n hx hb dX1_owedOf_1 rfl (lv_at hl 0 rfl) ?_
  refine gC_8_1 E G m_171 dX1_owedOf_2 ?_
  refine lv_iload_n hx hb dX1_owedOf_5 rfl (lv_at hl 1 rfl) ?_
  refine aC_22 E G (ix_bi hI h1) dX1_owedOf_6 ?_
  refine lv_icmp_ge (tgt := 12) hx hb dX1_owedOf_7 (by decide) (fun c_7 => ?_) (fun c_7 => ?_)
  · skip
    have c_7n := Int32.not_lt.mpr c_7
    refine lv_iload_n hx hb dX1_owedOf_12 rfl (lv_at hl 2 rfl) ?_
    refine lv_aload_n hx hb dX1_owedOf_13 rfl (lv_at hl 0 rfl) ?_
    refine gC_8_2 E G m_172 dX1_owedOf_14 ?_
    refine lv_iload_n hx hb dX1_owedOf_17 rfl (lv_at hl 1 rfl) ?_
    refine aC_23 E G (ix_bi hI h1) dX1_owedOf_18 ?_
    refine lv_isub hx hb dX1_owedOf_19 ?_
    refine lv_iconst (v := 0) hx hb dX1_owedOf_20 (by decide) ?_
    refine va_mmax hx hb (E.1.2.2.1.trans hl.1.symm) E.1.2.2.2.1 (E.1.2.2.2.2 _ mj_max_X1_28) (E.1.2.2.2.2 _ mj_max_st) (E.1.2.2.2.2 _ m_52) (E.1.2.2.2.2 _ mj_max_co) (Nat.le_of_ble_eq_true rfl) (Nat.le_of_ble_eq_true rfl) (Nat.zero_le _) (Nat.zero_le _) dX1_owedOf_21 ?_
    refine lv_bipush (v := 7) hx hb dX1_owedOf_24 (by decide) ?_
    refine lv_idiv hx hb dX1_owedOf_26 (by decide) ?_
    refine lv_istore_n (lv' := [(3, .int ((if (p2 - (ar (s_du S) p1)) < 0 then 0 else (p2 - (ar (s_du S) p1))) / 7)), (0, .ref (q 8)), (1, .int (p1)), (2, .int (p2))]) hx hb dX1_owedOf_27 rfl hl (by decide) rfl (fun ls hl => ?_)
    refine lv_aload_n hx hb dX1_owedOf_28 rfl (lv_at hl 1 rfl) ?_
    refine gC_8_0 E G m_169 dX1_owedOf_29 ?_
    refine lv_iload_n hx hb dX1_owedOf_32 rfl (lv_at hl 2 rfl) ?_
    refine aC_21 E G (ix_bi hI h1) dX1_owedOf_33 ?_
    refine lv_iload_n hx hb dX1_owedOf_34 rfl (lv_at hl 0 rfl) ?_
    refine lv_aload_n hx hb dX1_owedOf_35 rfl (lv_at hl 1 rfl) ?_
    refine gC_8_0 E G m_169 dX1_owedOf_36 ?_
    refine lv_iload_n hx hb dX1_owedOf_39 rfl (lv_at hl 2 rfl) ?_
    refine aC_21 E G (ix_bi hI h1) dX1_owedOf_40 ?_
    refine lv_bipush (v := 50) hx hb dX1_owedOf_41 (by decide) ?_
    refine lv_idiv hx hb dX1_owedOf_43 (by decide) ?_
    refine lv_imul hx hb dX1_owedOf_44 ?_
    refine lv_iadd hx hb dX1_owedOf_45 ?_
    have hs : (owS S p1 p2) = (ar (s_le S) p1) + (((if (p2 - (ar (s_du S) p1)) < 0 then 0 else (p2 - (ar (s_du S) p1))) / 7) * ((ar (s_le S) p1) / 50)) := by first | rfl | (simp [owS, c_7, c_7n]; done) | (simp_all [owS]; done)
    exact r_ret E G hr hlk hQ (congrArg (fun t => some (Value.int t)) hs) rfl dX1_owedOf_46
  · skip
    have c_7n := Int32.not_le.mp c_7
    refine lv_iconst (v := 0) hx hb dX1_owedOf_10 (by decide) ?_
    have hs : (owS S p1 p2) = 0 := by first | rfl | (simp [owS, c_7, c_7n]; done) | (simp_all [owS]; done)
    exact r_ret E G hr hlk hQ (congrArg (fun t => some (Value.int t)) hs) rfl dX1_owedOf_11
set_option maxHeartbeats 4000000 in
set_option maxRecDepth 100000 in
theorem c_X1_owedOfAll (l : Launch) (Z : ZT) (q : Nat → Nat) (S : St) (X : XC) (p1 : Int32) (hI : Inv S) : CT l Z yX1_owedOfAll cX1_owedOfAll 4 (some .int) 3 [.ref (q 8), .int (p1)] (CW Z q S X) (some (.int (owA S p1 (s_bi S).toNatClampNeg))) (CW Z q S X) := by
  refine CE.mk rfl (Nat.le_of_ble_eq_true rfl) (fun p e s m args below meth c A Qx ls E hr hlk hnm hQ G hl => ?_)
  have hx := E.1.1
  have hb := E.1.2.1
  have hl : lv_has ls 4 [(0, .ref (q 8)), (1, .int (p1))] := hl
  have h0 := hI.bi.1
  refine lv_iconst (v := 0) hx hb dX1_owedOfAll_0 (by decide) ?_
  refine lv_istore_n (lv' := [(2, .int (0)), (0, .ref (q 8)), (1, .int (p1))]) hx hb dX1_owedOfAll_1 rfl hl (by decide) rfl (fun ls hl => ?_)
  refine lv_iconst (v := 0) hx hb dX1_owedOfAll_2 (by decide) ?_
  refine lv_istore_n (lv' := [(3, .int (0)), (2, .int (0)), (0, .ref (q 8)), (1, .int (p1))]) hx hb dX1_owedOfAll_3 rfl hl (by decide) rfl (fun ls hl => ?_)
  have L4 : ∀ k : Nat, k ≤ (s_bi S).toNatClampNeg → (∀ (H : Heap) (locs : List Loc) (ls : Array Slot), GW Z (CW Z q S X) A s.heap H locs → lv_has ls 4 [(0, .ref (q 8)), (1, .int (p1)), (2, .int (owA S p1 k)), (3, .int (nI k))] → W p l e (rmk 3 0 0) s m args below meth c H locs 0 0 Qx (F0 m 4 ls [])) := by
    refine up_in2 (P := fun k => (∀ (H : Heap) (locs : List Loc) (ls : Array Slot), GW Z (CW Z q S X) A s.heap H locs → lv_has ls 4 [(0, .ref (q 8)), (1, .int (p1)), (2, .int (owA S p1 k)), (3, .int (nI k))] → W p l e (rmk 3 0 0) s m args below meth c H locs 0 0 Qx (F0 m 4 ls []))) ((s_bi S).toNatClampNeg) ?_
    intro k hkk ih4 H locs ls G hl
    refine lv_iload_n hx hb dX1_owedOfAll_4 rfl (lv_at hl 3 rfl) ?_
    refine lv_aload_n hx hb dX1_owedOfAll_5 rfl (lv_at hl 0 rfl) ?_
    refine gC_8_3 E G m_173 dX1_owedOfAll_6 ?_
    refine lv_icmp_ge (tgt := 27) hx hb dX1_owedOfAll_9 (by decide) (fun c_9 => ?_) (fun c_9 => ?_)
    · skip
      have c_9n := Int32.not_lt.mpr c_9
      refine lv_iload_n hx hb dX1_owedOfAll_27 rfl (lv_at hl 2 rfl) ?_
      have hs : (owA S p1 (s_bi S).toNatClampNeg) = owA S p1 k := by rw [lp_eq h0 hkk c_9]
      exact r_ret E G hr hlk hQ (congrArg (fun t => some (Value.int t)) hs) rfl dX1_owedOfAll_28
    · skip
      have c_9n := Int32.not_le.mp c_9
      refine lv_iload_n hx hb dX1_owedOfAll_12 rfl (lv_at hl 2 rfl) ?_
      refine lv_aload_n hx hb dX1_owedOfAll_13 rfl (lv_at hl 0 rfl) ?_
      refine lv_iload_n hx hb dX1_owedOfAll_14 rfl (lv_at hl 3 rfl) ?_
      refine lv_iload_n hx hb dX1_owedOfAll_15 rfl (lv_at hl 1 rfl) ?_
      refine r_V [.int (owA S p1 k)] E G (c_X1_owedOf l Z q S X (nI k) p1 hI (bi_k hI (lp_lt h0 hkk c_9))) kX1_owedOf m_591 8 rfl rfl ⟨Nat.le_of_ble_eq_true rfl, Nat.le_of_ble_eq_true rfl⟩ hl dX1_owedOfAll_16 rfl rfl (Nat.le_of_ble_eq_true rfl) ⟨Nat.zero_le _, Nat.zero_le _⟩ (fun H locs G => ?_)
      refine lv_iadd hx hb dX1_owedOfAll_19 ?_
      refine lv_istore_n (lv' := [(2, .int ((owA S p1 k) + (owS S (nI k) p1))), (0, .ref (q 8)), (1, .int (p1)), (3, .int (nI k))]) hx hb dX1_owedOfAll_20 rfl hl (by decide) rfl (fun ls hl => ?_)
      refine lv_iinc (v := (nI k) + 1) (lv' := [(3, .int ((nI k) + 1)), (2, .int ((owA S p1 k) + (owS S (nI k) p1))), (0, .ref (q 8)), (1, .int (p1))]) hx hb dX1_owedOfAll_21 hl (k := 3) rfl rfl (by decide) rfl (fun ls hl => ?_)
      refine lv_goto (tgt := 4) hx hb dX1_owedOfAll_24 (by decide) ?_
      exact ih4 (lp_lt h0 hkk c_9) _ _ _ (GW.cast (rfl) G) (lv_cast (lv_sub (l' := [(0, .ref (q 8)), (1, .int (p1)), (2, .int ((owA S p1 k) + (owS S (nI k) p1))), (3, .int ((nI k) + 1))]) hl [2, 3, 1, 0] rfl) (by rw [nI_1]; rfl))
  exact L4 0 (Nat.zero_le _) _ _ _ (GW.cast (rfl) G) (lv_cast (lv_sub (l' := [(0, .ref (q 8)), (1, .int (p1)), (2, .int (0)), (3, .int (0))]) hl [2, 3, 1, 0] rfl) (by rw [nI_0]; rfl))
set_option maxHeartbeats 4000000 in
set_option maxRecDepth 100000 in
theorem c_X8_vanNumber_t (l : Launch) (Z : ZT) (q : Nat → Nat) (S : St) (X : XC) (p1 : Int32) (hI : Inv S) (hv : isVa S p1 = true) : CT l Z yX8_vanNumber cX8_vanNumber 2 (some (.object "ConeRounds$Van")) 1 [.ref (q 0), .int (p1)] (CW Z q S X) (some (.ref (q (24 + p1.toNatClampNeg)))) (CW Z q S X) := by
  refine CE.mk rfl (Nat.le_of_ble_eq_true rfl) (fun p e s m args below meth c A Qx ls E hr hlk hnm hQ G hl => ?_)
  have hx := E.1.1
  have hb := E.1.2.1
  have hl : lv_has ls 2 [(0, .ref (q 0)), (1, .int (p1))] := hl
  refine lv_iload_n hx hb dX8_vanNumber_0 rfl (lv_at hl 1 rfl) ?_
  refine lv_if_lt (tgt := 21) hx hb dX8_vanNumber_1 (by decide) (fun c_1 => ?_) (fun c_1 => ?_)
  · skip
    have c_1n := Int32.not_le.mpr c_1
    exact absurd c_1 (va_n hv).1
  · skip
    have c_1n := Int32.not_lt.mp c_1
    refine lv_iload_n hx hb dX8_vanNumber_4 rfl (lv_at hl 1 rfl) ?_
    refine lv_aload_n hx hb dX8_vanNumber_5 rfl (lv_at hl 0 rfl) ?_
    refine gC_0_4 E G m_192 dX8_vanNumber_6 ?_
    refine lv_icmp_ge (tgt := 21) hx hb dX8_vanNumber_9 (by decide) (fun c_9 => ?_) (fun c_9 => ?_)
    · skip
      have c_9n := Int32.not_lt.mpr c_9
      exact absurd c_9 (va_n hv).2
    · skip
      have c_9n := Int32.not_le.mp c_9
      refine lv_aload_n hx hb dX8_vanNumber_12 rfl (lv_at hl 0 rfl) ?_
      refine gC_0_3 E G m_191 dX8_vanNumber_13 ?_
      refine lv_iload_n hx hb dX8_vanNumber_16 rfl (lv_at hl 1 rfl) ?_
      refine aC_4 E G (ix_va hI hv) dX8_vanNumber_17 ?_
      rw [vf_t (hv)]
      refine lv_goto (tgt := 22) hx hb dX8_vanNumber_18 (by decide) ?_
      exact r_reta E G hr hlk hQ (Or.inr ⟨_, rfl⟩) ⟨rfl, rfl⟩ dX8_vanNumber_22
set_option maxHeartbeats 4000000 in
set_option maxRecDepth 100000 in
theorem c_X8_vanNumber_f (l : Launch) (Z : ZT) (q : Nat → Nat) (S : St) (X : XC) (p1 : Int32) (hI : Inv S) (hv : isVa S p1 = false) : CT l Z yX8_vanNumber cX8_vanNumber 2 (some (.object "ConeRounds$Van")) 1 [.ref (q 0), .int (p1)] (CW Z q S X) (some (.null)) (CW Z q S X) := by
  refine CE.mk rfl (Nat.le_of_ble_eq_true rfl) (fun p e s m args below meth c A Qx ls E hr hlk hnm hQ G hl => ?_)
  have hx := E.1.1
  have hb := E.1.2.1
  have hl : lv_has ls 2 [(0, .ref (q 0)), (1, .int (p1))] := hl
  refine lv_iload_n hx hb dX8_vanNumber_0 rfl (lv_at hl 1 rfl) ?_
  refine lv_if_lt (tgt := 21) hx hb dX8_vanNumber_1 (by decide) (fun c_1 => ?_) (fun c_1 => ?_)
  · skip
    have c_1n := Int32.not_le.mpr c_1
    refine lv_null hx hb dX8_vanNumber_21 ?_
    exact r_reta E G hr hlk hQ (Or.inl rfl) ⟨rfl, rfl⟩ dX8_vanNumber_22
  · skip
    have c_1n := Int32.not_lt.mp c_1
    refine lv_iload_n hx hb dX8_vanNumber_4 rfl (lv_at hl 1 rfl) ?_
    refine lv_aload_n hx hb dX8_vanNumber_5 rfl (lv_at hl 0 rfl) ?_
    refine gC_0_4 E G m_192 dX8_vanNumber_6 ?_
    refine lv_icmp_ge (tgt := 21) hx hb dX8_vanNumber_9 (by decide) (fun c_9 => ?_) (fun c_9 => ?_)
    · skip
      have c_9n := Int32.not_lt.mpr c_9
      refine lv_null hx hb dX8_vanNumber_21 ?_
      exact r_reta E G hr hlk hQ (Or.inl rfl) ⟨rfl, rfl⟩ dX8_vanNumber_22
    · skip
      have c_9n := Int32.not_le.mp c_9
      exact absurd hv (va_p c_1 c_9)
set_option maxHeartbeats 4000000 in
set_option maxRecDepth 100000 in
theorem c_X8_isBarred (l : Launch) (Z : ZT) (q : Nat → Nat) (S : St) (X : XC) (p1 p2 : Int32) (hI : Inv S) (h1 : isSt S p1 = true) : CT l Z yX8_isBarred cX8_isBarred 3 (some .boolean) 2 [.ref (q 0), .int (p1), .int (p2)] (CW Z q S X) (some (.int (b01 (isBa S p1 p2)))) (CW Z q S X) := by
  refine CE.mk rfl (Nat.le_of_ble_eq_true rfl) (fun p e s m args below meth c A Qx ls E hr hlk hnm hQ G hl => ?_)
  have hx := E.1.1
  have hb := E.1.2.1
  have hl : lv_has ls 3 [(0, .ref (q 0)), (1, .int (p1)), (2, .int (p2))] := hl
  refine lv_aload_n hx hb dX8_isBarred_0 rfl (lv_at hl 0 rfl) ?_
  refine gC_0_1 E G m_189 dX8_isBarred_1 ?_
  refine gC_2_0 E G m_68 dX8_isBarred_4 ?_
  refine lv_iload_n hx hb dX8_isBarred_7 rfl (lv_at hl 1 rfl) ?_
  refine aC_10 E G (ix_st hI h1) dX8_isBarred_8 ?_
  refine lv_if_eq (tgt := 27) hx hb dX8_isBarred_9 (by decide) (fun c_9 => ?_) (fun c_9 => ?_)
  · skip
    refine lv_iconst (v := 0) hx hb dX8_isBarred_27 (by decide) ?_
    have hs : (isBa S p1 p2) = false := by rcases sc01 hI p1 with e1 | e1 <;> simp_all [isBa]
    exact r_retz E G hr hlk hQ (by decide) (congrArg (fun t => some (Value.int (b01 t))) hs) rfl dX8_isBarred_28
  · skip
    refine lv_aload_n hx hb dX8_isBarred_12 rfl (lv_at hl 0 rfl) ?_
    refine gC_0_2 E G m_190 dX8_isBarred_13 ?_
    refine lv_iload_n hx hb dX8_isBarred_16 rfl (lv_at hl 2 rfl) ?_
    refine r_V [] E G (c_X3_barsSchoolsAt l Z q S X p2) kX3_barsSchoolsAt m_364 3 rfl rfl ⟨Nat.le_of_ble_eq_true rfl, Nat.le_of_ble_eq_true rfl⟩ hl dX8_isBarred_17 rfl rfl (Nat.le_of_ble_eq_true rfl) ⟨Nat.zero_le _, Nat.zero_le _⟩ (fun H locs G => ?_)
    refine r_eqb (tgt := 27) hx hb dX8_isBarred_20 (by decide) (fun c_20 => ?_) (fun c_20 => ?_)
    · skip
      refine lv_iconst (v := 0) hx hb dX8_isBarred_27 (by decide) ?_
      have hs : (isBa S p1 p2) = false := by rcases sc01 hI p1 with e1 | e1 <;> simp_all [isBa]
      exact r_retz E G hr hlk hQ (by decide) (congrArg (fun t => some (Value.int (b01 t))) hs) rfl dX8_isBarred_28
    · skip
      refine lv_iconst (v := 1) hx hb dX8_isBarred_23 (by decide) ?_
      refine lv_goto (tgt := 28) hx hb dX8_isBarred_24 (by decide) ?_
      have hs : (isBa S p1 p2) = true := by rcases sc01 hI p1 with e1 | e1 <;> simp_all [isBa]
      exact r_retz E G hr hlk hQ (by decide) (congrArg (fun t => some (Value.int (b01 t))) hs) rfl dX8_isBarred_28
set_option maxHeartbeats 4000000 in
set_option maxRecDepth 100000 in
theorem c_X8_mayStand (l : Launch) (Z : ZT) (q : Nat → Nat) (S : St) (X : XC) (p1 p2 : Int32) (v : Int32) (hI : Inv S) (hv : isVa S v = true) (h1 : isSt S p1 = true) : CT l Z yX8_mayStand cX8_mayStand 4 (some .boolean) 3 [.ref (q 0), .ref (q (24 + v.toNatClampNeg)), .int (p1), .int (p2)] (CW Z q S X) (some (.int (b01 (may S v p1 p2)))) (CW Z q S X) := by
  refine CE.mk rfl (Nat.le_of_ble_eq_true rfl) (fun p e s m args below meth c A Qx ls E hr hlk hnm hQ G hl => ?_)
  have hx := E.1.1
  have hb := E.1.2.1
  have hl : lv_has ls 4 [(0, .ref (q 0)), (1, .ref (q (24 + v.toNatClampNeg))), (2, .int (p1)), (3, .int (p2))] := hl
  refine lv_aload_n hx hb dX8_mayStand_0 rfl (lv_at hl 1 rfl) ?_
  refine lv_iload_n hx hb dX8_mayStand_1 rfl (lv_at hl 2 rfl) ?_
  refine rV_isLicensed [] E G (hv) ⟨Nat.le_of_ble_eq_true rfl, Nat.le_of_ble_eq_true rfl⟩ hl dX8_mayStand_2 rfl (Nat.le_of_ble_eq_true rfl) ⟨Nat.zero_le _, Nat.zero_le _⟩ (fun H locs G => ?_)
  refine r_eqb (tgt := 21) hx hb dX8_mayStand_5 (by decide) (fun c_5 => ?_) (fun c_5 => ?_)
  · skip
    refine lv_iconst (v := 0) hx hb dX8_mayStand_21 (by decide) ?_
    have hs : (may S v p1 p2) = false := by first | rfl | (simp [may, c_5]; done) | (simp_all [may]; done)
    exact r_retz E G hr hlk hQ (by decide) (congrArg (fun t => some (Value.int (b01 t))) hs) rfl dX8_mayStand_22
  · skip
    refine lv_aload_n hx hb dX8_mayStand_8 rfl (lv_at hl 0 rfl) ?_
    refine lv_iload_n hx hb dX8_mayStand_9 rfl (lv_at hl 2 rfl) ?_
    refine lv_iload_n hx hb dX8_mayStand_10 rfl (lv_at hl 3 rfl) ?_
    refine r_V [] E G (c_X8_isBarred l Z q S X p1 p2 hI h1) kX8_isBarred m_360 0 rfl rfl ⟨Nat.le_of_ble_eq_true rfl, Nat.le_of_ble_eq_true rfl⟩ hl dX8_mayStand_11 rfl rfl (Nat.le_of_ble_eq_true rfl) ⟨Nat.zero_le _, Nat.zero_le _⟩ (fun H locs G => ?_)
    refine r_neb (tgt := 21) hx hb dX8_mayStand_14 (by decide) (fun c_14 => ?_) (fun c_14 => ?_)
    · skip
      refine lv_iconst (v := 0) hx hb dX8_mayStand_21 (by decide) ?_
      have hs : (may S v p1 p2) = false := by first | rfl | (simp [may, c_5, c_14]; done) | (simp_all [may]; done)
      exact r_retz E G hr hlk hQ (by decide) (congrArg (fun t => some (Value.int (b01 t))) hs) rfl dX8_mayStand_22
    · skip
      refine lv_iconst (v := 1) hx hb dX8_mayStand_17 (by decide) ?_
      refine lv_goto (tgt := 22) hx hb dX8_mayStand_18 (by decide) ?_
      have hs : (may S v p1 p2) = true := by first | rfl | (simp [may, c_5, c_14]; done) | (simp_all [may]; done)
      exact r_retz E G hr hlk hQ (by decide) (congrArg (fun t => some (Value.int (b01 t))) hs) rfl dX8_mayStand_22
set_option maxHeartbeats 4000000 in
set_option maxRecDepth 100000 in
theorem c_X8_hoursBetween (l : Launch) (Z : ZT) (q : Nat → Nat) (S : St) (X : XC) (p1 p2 : Int32) (v : Int32) (hI : Inv S) (hv : isVa S v = true) (h1 : isSt S p1 = true) (h2 : isSt S p2 = true) : CT l Z yX8_hoursBetween cX8_hoursBetween 4 (some .int) 3 [.ref (q 0), .ref (q (24 + v.toNatClampNeg)), .int (p1), .int (p2)] (CW Z q S X) (some (.int (lat S v p1 p2))) (CW Z q S X) := by
  refine CE.mk rfl (Nat.le_of_ble_eq_true rfl) (fun p e s m args below meth c A Qx ls E hr hlk hnm hQ G hl => ?_)
  have hx := E.1.1
  have hb := E.1.2.1
  have hl : lv_has ls 4 [(0, .ref (q 0)), (1, .ref (q (24 + v.toNatClampNeg))), (2, .int (p1)), (3, .int (p2))] := hl
  refine lv_iload_n hx hb dX8_hoursBetween_0 rfl (lv_at hl 2 rfl) ?_
  refine lv_iload_n hx hb dX8_hoursBetween_1 rfl (lv_at hl 3 rfl) ?_
  refine lv_icmp_ne (tgt := 9) hx hb dX8_hoursBetween_2 (by decide) (fun c_2 => ?_) (fun c_2 => ?_)
  · skip
    refine lv_aload_n hx hb dX8_hoursBetween_9 rfl (lv_at hl 1 rfl) ?_
    refine lv_aload_n hx hb dX8_hoursBetween_10 rfl (lv_at hl 0 rfl) ?_
    refine gC_0_1 E G m_189 dX8_hoursBetween_11 ?_
    refine lv_iload_n hx hb dX8_hoursBetween_14 rfl (lv_at hl 2 rfl) ?_
    refine lv_iload_n hx hb dX8_hoursBetween_15 rfl (lv_at hl 3 rfl) ?_
    refine r_V [.ref (q (24 + v.toNatClampNeg))] E G (c_X5_wayBetween l Z q S X p1 p2 hI h1 h2) kX5_wayBetween m_252 2 rfl rfl ⟨Nat.le_of_ble_eq_true rfl, Nat.le_of_ble_eq_true rfl⟩ hl dX8_hoursBetween_16 rfl rfl (Nat.le_of_ble_eq_true rfl) ⟨Nat.zero_le _, Nat.zero_le _⟩ (fun H locs G => ?_)
    refine rV_hoursAcross [] E G (hv) ⟨Nat.le_of_ble_eq_true rfl, Nat.le_of_ble_eq_true rfl⟩ hl dX8_hoursBetween_19 rfl (Nat.le_of_ble_eq_true rfl) ⟨Nat.zero_le _, Nat.zero_le _⟩ (fun H locs G => ?_)
    have hs : (lat S v p1 p2) = hac S v (ar (s_wy S) (p1 * 6 + p2)) := by first | exact lat_hac (by assumption) | simp [lat, c_2]
    exact r_ret E G hr hlk hQ (congrArg (fun t => some (Value.int t)) hs) rfl dX8_hoursBetween_22
  · skip
    refine lv_iconst (v := 1) hx hb dX8_hoursBetween_5 (by decide) ?_
    refine lv_goto (tgt := 22) hx hb dX8_hoursBetween_6 (by decide) ?_
    have hs : (lat S v p1 p2) = 1 := by first | exact lat_hac (by assumption) | simp [lat, c_2]
    exact r_ret E G hr hlk hQ (congrArg (fun t => some (Value.int t)) hs) rfl dX8_hoursBetween_22
set_option maxHeartbeats 4000000 in
set_option maxRecDepth 100000 in
theorem c_X8_isPlace (l : Launch) (Z : ZT) (q : Nat → Nat) (S : St) (X : XC) (p1 : Int32) : CT l Z yX8_isPlace cX8_isPlace 2 (some .boolean) 2 [.ref (q 0), .int (p1)] (CW Z q S X) (some (.int (b01 (isAt S p1)))) (CW Z q S X) := by
  refine CE.mk rfl (Nat.le_of_ble_eq_true rfl) (fun p e s m args below meth c A Qx ls E hr hlk hnm hQ G hl => ?_)
  have hx := E.1.1
  have hb := E.1.2.1
  have hl : lv_has ls 2 [(0, .ref (q 0)), (1, .int (p1))] := hl
  refine lv_iload_n hx hb dX8_isPlace_0 rfl (lv_at hl 1 rfl) ?_
  refine lv_if_lt (tgt := 32) hx hb dX8_isPlace_1 (by decide) (fun c_1 => ?_) (fun c_1 => ?_)
  · skip
    have c_1n := Int32.not_le.mpr c_1
    refine lv_iconst (v := 0) hx hb dX8_isPlace_32 (by decide) ?_
    have hs : (isAt S p1) = false := by first | rfl | (simp [isAt, c_1, c_1n]; done) | (simp_all [isAt]; done)
    exact r_retz E G hr hlk hQ (by decide) (congrArg (fun t => some (Value.int (b01 t))) hs) rfl dX8_isPlace_33
  · skip
    have c_1n := Int32.not_lt.mp c_1
    refine lv_aload_n hx hb dX8_isPlace_4 rfl (lv_at hl 0 rfl) ?_
    refine gC_0_1 E G m_189 dX8_isPlace_5 ?_
    refine lv_iload_n hx hb dX8_isPlace_8 rfl (lv_at hl 1 rfl) ?_
    refine r_S [.ref (q 2)] E G (c_X8_streetOf l Z q S X p1) kX8_streetOf m_389 ⟨Nat.le_of_ble_eq_true rfl, Nat.le_of_ble_eq_true rfl⟩ hl dX8_isPlace_9 rfl rfl (Nat.le_of_ble_eq_true rfl) ⟨Nat.zero_le _, Nat.zero_le _⟩ (fun H locs G => ?_)
    refine r_V [] E G (c_X5_has l Z q S X (p1 / 100)) kX5_has m_245 2 rfl rfl ⟨Nat.le_of_ble_eq_true rfl, Nat.le_of_ble_eq_true rfl⟩ hl dX8_isPlace_12 rfl rfl (Nat.le_of_ble_eq_true rfl) ⟨Nat.zero_le _, Nat.zero_le _⟩ (fun H locs G => ?_)
    refine r_eqb (tgt := 32) hx hb dX8_isPlace_15 (by decide) (fun c_15 => ?_) (fun c_15 => ?_)
    · skip
      refine lv_iconst (v := 0) hx hb dX8_isPlace_32 (by decide) ?_
      have hs : (isAt S p1) = false := by first | rfl | (simp [isAt, c_1, c_1n, c_15]; done) | (simp_all [isAt]; done)
      exact r_retz E G hr hlk hQ (by decide) (congrArg (fun t => some (Value.int (b01 t))) hs) rfl dX8_isPlace_33
    · skip
      refine lv_iload_n hx hb dX8_isPlace_18 rfl (lv_at hl 1 rfl) ?_
      refine r_S [] E G (c_X8_hourOf l Z q S X p1) kX8_hourOf m_392 ⟨Nat.le_of_ble_eq_true rfl, Nat.le_of_ble_eq_true rfl⟩ hl dX8_isPlace_19 rfl rfl (Nat.le_of_ble_eq_true rfl) ⟨Nat.zero_le _, Nat.zero_le _⟩ (fun H locs G => ?_)
      refine r_S [] E G (c_X8_isHour l Z q S X (ho p1)) kX8_isHour m_264 ⟨Nat.le_of_ble_eq_true rfl, Nat.le_of_ble_eq_true rfl⟩ hl dX8_isPlace_22 rfl rfl (Nat.le_of_ble_eq_true rfl) ⟨Nat.zero_le _, Nat.zero_le _⟩ (fun H locs G => ?_)
      refine r_eqb (tgt := 32) hx hb dX8_isPlace_25 (by decide) (fun c_25 => ?_) (fun c_25 => ?_)
      · skip
        refine lv_iconst (v := 0) hx hb dX8_isPlace_32 (by decide) ?_
        have hs : (isAt S p1) = false := by first | rfl | (simp [isAt, c_1, c_1n, c_15, c_25]; done) | (simp_all [isAt]; done)
        exact r_retz E G hr hlk hQ (by decide) (congrArg (fun t => some (Value.int (b01 t))) hs) rfl dX8_isPlace_33
      · skip
        refine lv_iconst (v := 1) hx hb dX8_isPlace_28 (by decide) ?_
        refine lv_goto (tgt := 33) hx hb dX8_isPlace_29 (by decide) ?_
        have hs : (isAt S p1) = true := by first | rfl | (simp [isAt, c_1, c_1n, c_15, c_25]; done) | (simp_all [isAt]; done)
        exact r_retz E G hr hlk hQ (by decide) (congrArg (fun t => some (Value.int (b01 t))) hs) rfl dX8_isPlace_33
set_option maxHeartbeats 4000000 in
set_option maxRecDepth 100000 in
theorem c_X8_isPair (l : Launch) (Z : ZT) (q : Nat → Nat) (S : St) (X : XC) (p1 : Int32) : CT l Z yX8_isPair cX8_isPair 2 (some .boolean) 2 [.ref (q 0), .int (p1)] (CW Z q S X) (some (.int (b01 (decide (0 ≤ p1) && (isSt S (p1 / 10) && isSt S (re10 p1)))))) (CW Z q S X) := by
  refine CE.mk rfl (Nat.le_of_ble_eq_true rfl) (fun p e s m args below meth c A Qx ls E hr hlk hnm hQ G hl => ?_)
  have hx := E.1.1
  have hb := E.1.2.1
  have hl : lv_has ls 2 [(0, .ref (q 0)), (1, .int (p1))] := hl
  refine lv_iload_n hx hb dX8_isPair_0 rfl (lv_at hl 1 rfl) ?_
  refine lv_if_lt (tgt := 36) hx hb dX8_isPair_1 (by decide) (fun c_1 => ?_) (fun c_1 => ?_)
  · skip
    have c_1n := Int32.not_le.mpr c_1
    refine lv_iconst (v := 0) hx hb dX8_isPair_36 (by decide) ?_
    have hs : (decide (0 ≤ p1) && (isSt S (p1 / 10) && isSt S (re10 p1))) = false := by first | rfl | (simp [re10, c_1, c_1n]; done) | (simp_all [re10]; done)
    exact r_retz E G hr hlk hQ (by decide) (congrArg (fun t => some (Value.int (b01 t))) hs) rfl dX8_isPair_37
  · skip
    have c_1n := Int32.not_lt.mp c_1
    refine lv_aload_n hx hb dX8_isPair_4 rfl (lv_at hl 0 rfl) ?_
    refine gC_0_1 E G m_189 dX8_isPair_5 ?_
    refine lv_iload_n hx hb dX8_isPair_8 rfl (lv_at hl 1 rfl) ?_
    refine lv_bipush (v := 10) hx hb dX8_isPair_9 (by decide) ?_
    refine lv_idiv hx hb dX8_isPair_11 (by decide) ?_
    refine r_V [] E G (c_X5_has l Z q S X (p1 / 10)) kX5_has m_245 2 rfl rfl ⟨Nat.le_of_ble_eq_true rfl, Nat.le_of_ble_eq_true rfl⟩ hl dX8_isPair_12 rfl rfl (Nat.le_of_ble_eq_true rfl) ⟨Nat.zero_le _, Nat.zero_le _⟩ (fun H locs G => ?_)
    refine r_eqb (tgt := 36) hx hb dX8_isPair_15 (by decide) (fun c_15 => ?_) (fun c_15 => ?_)
    · skip
      refine lv_iconst (v := 0) hx hb dX8_isPair_36 (by decide) ?_
      have hs : (decide (0 ≤ p1) && (isSt S (p1 / 10) && isSt S (re10 p1))) = false := by first | rfl | (simp [re10, c_1, c_1n, c_15]; done) | (simp_all [re10]; done)
      exact r_retz E G hr hlk hQ (by decide) (congrArg (fun t => some (Value.int (b01 t))) hs) rfl dX8_isPair_37
    · skip
      refine lv_aload_n hx hb dX8_isPair_18 rfl (lv_at hl 0 rfl) ?_
      refine gC_0_1 E G m_189 dX8_isPair_19 ?_
      refine lv_iload_n hx hb dX8_isPair_22 rfl (lv_at hl 1 rfl) ?_
      refine lv_bipush (v := 10) hx hb dX8_isPair_23 (by decide) ?_
      refine lv_irem hx hb dX8_isPair_25 (by decide) ?_
      refine r_V [] E G (c_X5_has l Z q S X (p1 - p1 / 10 * 10)) kX5_has m_245 2 rfl rfl ⟨Nat.le_of_ble_eq_true rfl, Nat.le_of_ble_eq_true rfl⟩ hl dX8_isPair_26 rfl rfl (Nat.le_of_ble_eq_true rfl) ⟨Nat.zero_le _, Nat.zero_le _⟩ (fun H locs G => ?_)
      refine r_eqb (tgt := 36) hx hb dX8_isPair_29 (by decide) (fun c_29 => ?_) (fun c_29 => ?_)
      · skip
        refine lv_iconst (v := 0) hx hb dX8_isPair_36 (by decide) ?_
        have hs : (decide (0 ≤ p1) && (isSt S (p1 / 10) && isSt S (re10 p1))) = false := by first | rfl | (simp [re10, c_1, c_1n, c_15, c_29]; done) | (simp_all [re10]; done)
        exact r_retz E G hr hlk hQ (by decide) (congrArg (fun t => some (Value.int (b01 t))) hs) rfl dX8_isPair_37
      · skip
        refine lv_iconst (v := 1) hx hb dX8_isPair_32 (by decide) ?_
        refine lv_goto (tgt := 37) hx hb dX8_isPair_33 (by decide) ?_
        have hs : (decide (0 ≤ p1) && (isSt S (p1 / 10) && isSt S (re10 p1))) = true := by first | rfl | (simp [re10, c_1, c_1n, c_15, c_29]; done) | (simp_all [re10]; done)
        exact r_retz E G hr hlk hQ (by decide) (congrArg (fun t => some (Value.int (b01 t))) hs) rfl dX8_isPair_37
end
