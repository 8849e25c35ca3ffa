section
-- ===== PART A: goes FIRST, ahead of the names: the tables' words, and 'selects' of the private methods out of them =====
/-- a private method of a class that the tables say can be made, by its rows of tables_1 -/
def lw_okq (q : MethodName × Nat) : Prop := (q.1.cls ≠ "java/lang/invoke/MethodHandle" ∧ q.1.cls ≠ "java/lang/invoke/VarHandle") ∧ Cond.instantiable q.1.cls q.2 ∈ tables_1 ∧ Cond.privateMethod q.1 ∈ tables_1 ∧ Cond.instanceMethod q.1 ∈ tables_1
theorem lw_p0 : lw_okq (⟨"LightPropagator", "relight", "()I"⟩, 13) := ⟨⟨by decide +kernel, by decide +kernel⟩, List.mem_of_getElem? (i := 12) (by decide +kernel), List.mem_of_getElem? (i := 210) (by decide +kernel), List.mem_of_getElem? (i := 211) (by decide +kernel)⟩
theorem lw_p1 : lw_okq (⟨"LightPropagator", "clearEffect", "()V"⟩, 13) := ⟨⟨by decide +kernel, by decide +kernel⟩, List.mem_of_getElem? (i := 12) (by decide +kernel), List.mem_of_getElem? (i := 214) (by decide +kernel), List.mem_of_getElem? (i := 215) (by decide +kernel)⟩
theorem lw_p2 : lw_okq (⟨"LightPropagator$Lighting", "enterSun", "(LLightPropagator$World;[I)V"⟩, 4) := ⟨⟨by decide +kernel, by decide +kernel⟩, List.mem_of_getElem? (i := 46) (by decide +kernel), List.mem_of_getElem? (i := 222) (by decide +kernel), List.mem_of_getElem? (i := 223) (by decide +kernel)⟩
theorem lw_p3 : lw_okq (⟨"LightPropagator$Lighting", "enter", "(II[I)V"⟩, 4) := ⟨⟨by decide +kernel, by decide +kernel⟩, List.mem_of_getElem? (i := 46) (by decide +kernel), List.mem_of_getElem? (i := 231) (by decide +kernel), List.mem_of_getElem? (i := 232) (by decide +kernel)⟩
theorem lw_p4 : lw_okq (⟨"LightPropagator$Lighting", "enterEmissions", "(LLightPropagator$World;II[I)V"⟩, 4) := ⟨⟨by decide +kernel, by decide +kernel⟩, List.mem_of_getElem? (i := 46) (by decide +kernel), List.mem_of_getElem? (i := 235) (by decide +kernel), List.mem_of_getElem? (i := 236) (by decide +kernel)⟩
theorem lw_p5 : lw_okq (⟨"LightPropagator$Lighting", "give", "(LLightPropagator$World;II[I)V"⟩, 4) := ⟨⟨by decide +kernel, by decide +kernel⟩, List.mem_of_getElem? (i := 46) (by decide +kernel), List.mem_of_getElem? (i := 243) (by decide +kernel), List.mem_of_getElem? (i := 244) (by decide +kernel)⟩
theorem lw_p6 : lw_okq (⟨"LightPropagator", "takeTrial", "([I)V"⟩, 13) := ⟨⟨by decide +kernel, by decide +kernel⟩, List.mem_of_getElem? (i := 12) (by decide +kernel), List.mem_of_getElem? (i := 259) (by decide +kernel), List.mem_of_getElem? (i := 260) (by decide +kernel)⟩
theorem lw_p7 : lw_okq (⟨"LightPropagator$CommandText", "parseCommand", "(I)Z"⟩, 7) := ⟨⟨by decide +kernel, by decide +kernel⟩, List.mem_of_getElem? (i := 107) (by decide +kernel), List.mem_of_getElem? (i := 326) (by decide +kernel), List.mem_of_getElem? (i := 327) (by decide +kernel)⟩
theorem lw_p8 : lw_okq (⟨"LightPropagator$CommandText", "skip", "(C)Z"⟩, 7) := ⟨⟨by decide +kernel, by decide +kernel⟩, List.mem_of_getElem? (i := 107) (by decide +kernel), List.mem_of_getElem? (i := 336) (by decide +kernel), List.mem_of_getElem? (i := 337) (by decide +kernel)⟩
theorem lw_p9 : lw_okq (⟨"LightPropagator$CommandText", "parseNumber", "(II)Z"⟩, 7) := ⟨⟨by decide +kernel, by decide +kernel⟩, List.mem_of_getElem? (i := 107) (by decide +kernel), List.mem_of_getElem? (i := 340) (by decide +kernel), List.mem_of_getElem? (i := 341) (by decide +kernel)⟩
theorem lw_p10 : lw_okq (⟨"LightPropagator$CommandText", "isDigitNext", "()Z"⟩, 7) := ⟨⟨by decide +kernel, by decide +kernel⟩, List.mem_of_getElem? (i := 107) (by decide +kernel), List.mem_of_getElem? (i := 344) (by decide +kernel), List.mem_of_getElem? (i := 345) (by decide +kernel)⟩
theorem lw_p11 : lw_okq (⟨"LightPropagator", "packedLights", "(I)I"⟩, 13) := ⟨⟨by decide +kernel, by decide +kernel⟩, List.mem_of_getElem? (i := 12) (by decide +kernel), List.mem_of_getElem? (i := 401) (by decide +kernel), List.mem_of_getElem? (i := 402) (by decide +kernel)⟩
theorem lw_p12 : lw_okq (⟨"LightPropagator", "originOf", "(II)I"⟩, 13) := ⟨⟨by decide +kernel, by decide +kernel⟩, List.mem_of_getElem? (i := 12) (by decide +kernel), List.mem_of_getElem? (i := 409) (by decide +kernel), List.mem_of_getElem? (i := 410) (by decide +kernel)⟩
theorem lw_p13 : lw_okq (⟨"LightPropagator", "giverOf", "(II)I"⟩, 13) := ⟨⟨by decide +kernel, by decide +kernel⟩, List.mem_of_getElem? (i := 12) (by decide +kernel), List.mem_of_getElem? (i := 420) (by decide +kernel), List.mem_of_getElem? (i := 421) (by decide +kernel)⟩
theorem lw_p14 : lw_okq (⟨"LightPropagator", "brightestColor", "(I)I"⟩, 13) := ⟨⟨by decide +kernel, by decide +kernel⟩, List.mem_of_getElem? (i := 12) (by decide +kernel), List.mem_of_getElem? (i := 473) (by decide +kernel), List.mem_of_getElem? (i := 474) (by decide +kernel)⟩
theorem lw_p15 : lw_okq (⟨"LightPropagator", "leaveRegion", "(I)V"⟩, 13) := ⟨⟨by decide +kernel, by decide +kernel⟩, List.mem_of_getElem? (i := 12) (by decide +kernel), List.mem_of_getElem? (i := 496) (by decide +kernel), List.mem_of_getElem? (i := 497) (by decide +kernel)⟩
def lw_privs_1 : List (MethodName × Nat) := [(⟨"LightPropagator", "relight", "()I"⟩, 13), (⟨"LightPropagator", "clearEffect", "()V"⟩, 13), (⟨"LightPropagator$Lighting", "enterSun", "(LLightPropagator$World;[I)V"⟩, 4), (⟨"LightPropagator$Lighting", "enter", "(II[I)V"⟩, 4), (⟨"LightPropagator$Lighting", "enterEmissions", "(LLightPropagator$World;II[I)V"⟩, 4), (⟨"LightPropagator$Lighting", "give", "(LLightPropagator$World;II[I)V"⟩, 4), (⟨"LightPropagator", "takeTrial", "([I)V"⟩, 13), (⟨"LightPropagator$CommandText", "parseCommand", "(I)Z"⟩, 7), (⟨"LightPropagator$CommandText", "skip", "(C)Z"⟩, 7), (⟨"LightPropagator$CommandText", "parseNumber", "(II)Z"⟩, 7), (⟨"LightPropagator$CommandText", "isDigitNext", "()Z"⟩, 7), (⟨"LightPropagator", "packedLights", "(I)I"⟩, 13), (⟨"LightPropagator", "originOf", "(II)I"⟩, 13), (⟨"LightPropagator", "giverOf", "(II)I"⟩, 13), (⟨"LightPropagator", "brightestColor", "(I)I"⟩, 13), (⟨"LightPropagator", "leaveRegion", "(I)V"⟩, 13)]
theorem lw_r1 : ∀ q ∈ lw_privs_1, lw_okq q := List.forall_mem_cons.mpr ⟨lw_p0, List.forall_mem_cons.mpr ⟨lw_p1, List.forall_mem_cons.mpr ⟨lw_p2, List.forall_mem_cons.mpr ⟨lw_p3, List.forall_mem_cons.mpr ⟨lw_p4, List.forall_mem_cons.mpr ⟨lw_p5, List.forall_mem_cons.mpr ⟨lw_p6, List.forall_mem_cons.mpr ⟨lw_p7, List.forall_mem_cons.mpr ⟨lw_p8, List.forall_mem_cons.mpr ⟨lw_p9, List.forall_mem_cons.mpr ⟨lw_p10, List.forall_mem_cons.mpr ⟨lw_p11, List.forall_mem_cons.mpr ⟨lw_p12, List.forall_mem_cons.mpr ⟨lw_p13, List.forall_mem_cons.mpr ⟨lw_p14, List.forall_mem_cons.mpr ⟨lw_p15, fun _ h => absurd h List.not_mem_nil⟩⟩⟩⟩⟩⟩⟩⟩⟩⟩⟩⟩⟩⟩⟩⟩
theorem lw_p16 : lw_okq (⟨"LightPropagatorModel", "layAll", "()V"⟩, 26) := ⟨⟨by decide +kernel, by decide +kernel⟩, List.mem_of_getElem? (i := 528) (by decide +kernel), List.mem_of_getElem? (i := 534) (by decide +kernel), List.mem_of_getElem? (i := 535) (by decide +kernel)⟩
theorem lw_p17 : lw_okq (⟨"LightPropagatorModel", "lay", "(I)V"⟩, 26) := ⟨⟨by decide +kernel, by decide +kernel⟩, List.mem_of_getElem? (i := 528) (by decide +kernel), List.mem_of_getElem? (i := 538) (by decide +kernel), List.mem_of_getElem? (i := 539) (by decide +kernel)⟩
theorem lw_p18 : lw_okq (⟨"LightPropagatorModel", "emissionOf", "(II)I"⟩, 26) := ⟨⟨by decide +kernel, by decide +kernel⟩, List.mem_of_getElem? (i := 528) (by decide +kernel), List.mem_of_getElem? (i := 542) (by decide +kernel), List.mem_of_getElem? (i := 543) (by decide +kernel)⟩
theorem lw_p19 : lw_okq (⟨"LightPropagatorModel", "typeOf", "(I)I"⟩, 26) := ⟨⟨by decide +kernel, by decide +kernel⟩, List.mem_of_getElem? (i := 528) (by decide +kernel), List.mem_of_getElem? (i := 546) (by decide +kernel), List.mem_of_getElem? (i := 547) (by decide +kernel)⟩
theorem lw_p20 : lw_okq (⟨"LightPropagatorModel", "laySun", "()V"⟩, 26) := ⟨⟨by decide +kernel, by decide +kernel⟩, List.mem_of_getElem? (i := 528) (by decide +kernel), List.mem_of_getElem? (i := 550) (by decide +kernel), List.mem_of_getElem? (i := 551) (by decide +kernel)⟩
theorem lw_p21 : lw_okq (⟨"LightPropagatorModel", "lossOf", "(II)I"⟩, 26) := ⟨⟨by decide +kernel, by decide +kernel⟩, List.mem_of_getElem? (i := 528) (by decide +kernel), List.mem_of_getElem? (i := 557) (by decide +kernel), List.mem_of_getElem? (i := 558) (by decide +kernel)⟩
theorem lw_p22 : lw_okq (⟨"LightPropagatorModel", "raise", "(II)V"⟩, 26) := ⟨⟨by decide +kernel, by decide +kernel⟩, List.mem_of_getElem? (i := 528) (by decide +kernel), List.mem_of_getElem? (i := 561) (by decide +kernel), List.mem_of_getElem? (i := 562) (by decide +kernel)⟩
theorem lw_p23 : lw_okq (⟨"LightPropagatorModel", "collect", "(II)I"⟩, 26) := ⟨⟨by decide +kernel, by decide +kernel⟩, List.mem_of_getElem? (i := 528) (by decide +kernel), List.mem_of_getElem? (i := 670) (by decide +kernel), List.mem_of_getElem? (i := 671) (by decide +kernel)⟩
theorem lw_p24 : lw_okq (⟨"LightPropagatorModel", "keep", "()V"⟩, 26) := ⟨⟨by decide +kernel, by decide +kernel⟩, List.mem_of_getElem? (i := 528) (by decide +kernel), List.mem_of_getElem? (i := 674) (by decide +kernel), List.mem_of_getElem? (i := 675) (by decide +kernel)⟩
theorem lw_p25 : lw_okq (⟨"LightPropagatorModel", "changed", "()I"⟩, 26) := ⟨⟨by decide +kernel, by decide +kernel⟩, List.mem_of_getElem? (i := 528) (by decide +kernel), List.mem_of_getElem? (i := 678) (by decide +kernel), List.mem_of_getElem? (i := 679) (by decide +kernel)⟩
theorem lw_p26 : lw_okq (⟨"LightPropagatorModel", "effectMany", "()I"⟩, 26) := ⟨⟨by decide +kernel, by decide +kernel⟩, List.mem_of_getElem? (i := 528) (by decide +kernel), List.mem_of_getElem? (i := 682) (by decide +kernel), List.mem_of_getElem? (i := 683) (by decide +kernel)⟩
theorem lw_p27 : lw_okq (⟨"LightPropagatorModel", "lays", "(IIIIIII)V"⟩, 26) := ⟨⟨by decide +kernel, by decide +kernel⟩, List.mem_of_getElem? (i := 528) (by decide +kernel), List.mem_of_getElem? (i := 702) (by decide +kernel), List.mem_of_getElem? (i := 703) (by decide +kernel)⟩
theorem lw_p28 : lw_okq (⟨"LightPropagatorModel", "readOne", "()V"⟩, 26) := ⟨⟨by decide +kernel, by decide +kernel⟩, List.mem_of_getElem? (i := 528) (by decide +kernel), List.mem_of_getElem? (i := 722) (by decide +kernel), List.mem_of_getElem? (i := 723) (by decide +kernel)⟩
theorem lw_p29 : lw_okq (⟨"LightPropagatorModel", "here", "()I"⟩, 26) := ⟨⟨by decide +kernel, by decide +kernel⟩, List.mem_of_getElem? (i := 528) (by decide +kernel), List.mem_of_getElem? (i := 726) (by decide +kernel), List.mem_of_getElem? (i := 727) (by decide +kernel)⟩
theorem lw_p30 : lw_okq (⟨"LightPropagatorModel", "take", "(I)V"⟩, 26) := ⟨⟨by decide +kernel, by decide +kernel⟩, List.mem_of_getElem? (i := 528) (by decide +kernel), List.mem_of_getElem? (i := 730) (by decide +kernel), List.mem_of_getElem? (i := 731) (by decide +kernel)⟩
theorem lw_p31 : lw_okq (⟨"LightPropagatorModel", "number", "()I"⟩, 26) := ⟨⟨by decide +kernel, by decide +kernel⟩, List.mem_of_getElem? (i := 528) (by decide +kernel), List.mem_of_getElem? (i := 734) (by decide +kernel), List.mem_of_getElem? (i := 735) (by decide +kernel)⟩
def lw_privs_2 : List (MethodName × Nat) := [(⟨"LightPropagatorModel", "layAll", "()V"⟩, 26), (⟨"LightPropagatorModel", "lay", "(I)V"⟩, 26), (⟨"LightPropagatorModel", "emissionOf", "(II)I"⟩, 26), (⟨"LightPropagatorModel", "typeOf", "(I)I"⟩, 26), (⟨"LightPropagatorModel", "laySun", "()V"⟩, 26), (⟨"LightPropagatorModel", "lossOf", "(II)I"⟩, 26), (⟨"LightPropagatorModel", "raise", "(II)V"⟩, 26), (⟨"LightPropagatorModel", "collect", "(II)I"⟩, 26), (⟨"LightPropagatorModel", "keep", "()V"⟩, 26), (⟨"LightPropagatorModel", "changed", "()I"⟩, 26), (⟨"LightPropagatorModel", "effectMany", "()I"⟩, 26), (⟨"LightPropagatorModel", "lays", "(IIIIIII)V"⟩, 26), (⟨"LightPropagatorModel", "readOne", "()V"⟩, 26), (⟨"LightPropagatorModel", "here", "()I"⟩, 26), (⟨"LightPropagatorModel", "take", "(I)V"⟩, 26), (⟨"LightPropagatorModel", "number", "()I"⟩, 26)]
theorem lw_r2 : ∀ q ∈ lw_privs_2, lw_okq q := List.forall_mem_cons.mpr ⟨lw_p16, List.forall_mem_cons.mpr ⟨lw_p17, List.forall_mem_cons.mpr ⟨lw_p18, List.forall_mem_cons.mpr ⟨lw_p19, List.forall_mem_cons.mpr ⟨lw_p20, List.forall_mem_cons.mpr ⟨lw_p21, List.forall_mem_cons.mpr ⟨lw_p22, List.forall_mem_cons.mpr ⟨lw_p23, List.forall_mem_cons.mpr ⟨lw_p24, List.forall_mem_cons.mpr ⟨lw_p25, List.forall_mem_cons.mpr ⟨lw_p26, List.forall_mem_cons.mpr ⟨lw_p27, List.forall_mem_cons.mpr ⟨lw_p28, List.forall_mem_cons.mpr ⟨lw_p29, List.forall_mem_cons.mpr ⟨lw_p30, List.forall_mem_cons.mpr ⟨lw_p31, fun _ h => absurd h List.not_mem_nil⟩⟩⟩⟩⟩⟩⟩⟩⟩⟩⟩⟩⟩⟩⟩⟩
theorem lw_p32 : lw_okq (⟨"LightPropagatorModel", "isGood", "(I)Z"⟩, 26) := ⟨⟨by decide +kernel, by decide +kernel⟩, List.mem_of_getElem? (i := 528) (by decide +kernel), List.mem_of_getElem? (i := 738) (by decide +kernel), List.mem_of_getElem? (i := 739) (by decide +kernel)⟩
theorem lw_p33 : lw_okq (⟨"LightPropagatorModel", "execute", "(I)V"⟩, 26) := ⟨⟨by decide +kernel, by decide +kernel⟩, List.mem_of_getElem? (i := 528) (by decide +kernel), List.mem_of_getElem? (i := 742) (by decide +kernel), List.mem_of_getElem? (i := 743) (by decide +kernel)⟩
theorem lw_p34 : lw_okq (⟨"LightPropagatorModel", "lightOf", "(II)I"⟩, 26) := ⟨⟨by decide +kernel, by decide +kernel⟩, List.mem_of_getElem? (i := 528) (by decide +kernel), List.mem_of_getElem? (i := 770) (by decide +kernel), List.mem_of_getElem? (i := 771) (by decide +kernel)⟩
theorem lw_p35 : lw_okq (⟨"LightPropagatorModel", "lightsOf", "(I)I"⟩, 26) := ⟨⟨by decide +kernel, by decide +kernel⟩, List.mem_of_getElem? (i := 528) (by decide +kernel), List.mem_of_getElem? (i := 778) (by decide +kernel), List.mem_of_getElem? (i := 779) (by decide +kernel)⟩
theorem lw_p36 : lw_okq (⟨"LightPropagatorModel", "originOf", "(II)I"⟩, 26) := ⟨⟨by decide +kernel, by decide +kernel⟩, List.mem_of_getElem? (i := 528) (by decide +kernel), List.mem_of_getElem? (i := 786) (by decide +kernel), List.mem_of_getElem? (i := 787) (by decide +kernel)⟩
theorem lw_p37 : lw_okq (⟨"LightPropagatorModel", "goBack", "(II)I"⟩, 26) := ⟨⟨by decide +kernel, by decide +kernel⟩, List.mem_of_getElem? (i := 528) (by decide +kernel), List.mem_of_getElem? (i := 794) (by decide +kernel), List.mem_of_getElem? (i := 795) (by decide +kernel)⟩
theorem lw_p38 : lw_okq (⟨"LightPropagatorModel", "layWith", "(IIII)V"⟩, 26) := ⟨⟨by decide +kernel, by decide +kernel⟩, List.mem_of_getElem? (i := 528) (by decide +kernel), List.mem_of_getElem? (i := 824) (by decide +kernel), List.mem_of_getElem? (i := 825) (by decide +kernel)⟩
theorem lw_p39 : lw_okq (⟨"LightPropagatorModel", "takeRegion", "(I)V"⟩, 26) := ⟨⟨by decide +kernel, by decide +kernel⟩, List.mem_of_getElem? (i := 528) (by decide +kernel), List.mem_of_getElem? (i := 864) (by decide +kernel), List.mem_of_getElem? (i := 865) (by decide +kernel)⟩
theorem lw_p40 : lw_okq (⟨"LightPropagatorModel", "blocks", "()I"⟩, 26) := ⟨⟨by decide +kernel, by decide +kernel⟩, List.mem_of_getElem? (i := 528) (by decide +kernel), List.mem_of_getElem? (i := 887) (by decide +kernel), List.mem_of_getElem? (i := 888) (by decide +kernel)⟩
def lw_privs_3 : List (MethodName × Nat) := [(⟨"LightPropagatorModel", "isGood", "(I)Z"⟩, 26), (⟨"LightPropagatorModel", "execute", "(I)V"⟩, 26), (⟨"LightPropagatorModel", "lightOf", "(II)I"⟩, 26), (⟨"LightPropagatorModel", "lightsOf", "(I)I"⟩, 26), (⟨"LightPropagatorModel", "originOf", "(II)I"⟩, 26), (⟨"LightPropagatorModel", "goBack", "(II)I"⟩, 26), (⟨"LightPropagatorModel", "layWith", "(IIII)V"⟩, 26), (⟨"LightPropagatorModel", "takeRegion", "(I)V"⟩, 26), (⟨"LightPropagatorModel", "blocks", "()I"⟩, 26)]
theorem lw_r3 : ∀ q ∈ lw_privs_3, lw_okq q := List.forall_mem_cons.mpr ⟨lw_p32, List.forall_mem_cons.mpr ⟨lw_p33, List.forall_mem_cons.mpr ⟨lw_p34, List.forall_mem_cons.mpr ⟨lw_p35, List.forall_mem_cons.mpr ⟨lw_p36, List.forall_mem_cons.mpr ⟨lw_p37, List.forall_mem_cons.mpr ⟨lw_p38, List.forall_mem_cons.mpr ⟨lw_p39, List.forall_mem_cons.mpr ⟨lw_p40, fun _ h => absurd h List.not_mem_nil⟩⟩⟩⟩⟩⟩⟩⟩⟩
def lw_privs : List (MethodName × Nat) := lw_privs_1 ++ (lw_privs_2 ++ (lw_privs_3))
def lw_tbl : List Cond := k2_sels lw_privs ++ tables_1
theorem lw_privs_ok : ∀ q ∈ lw_privs, lw_okq q := by
  show ∀ q ∈ lw_privs_1 ++ (lw_privs_2 ++ (lw_privs_3)), lw_okq q
  exact List.forall_mem_append.mpr ⟨lw_r1, List.forall_mem_append.mpr ⟨lw_r2, lw_r3⟩⟩
-- ===== end of PART A; then your names; then what follows =====
def RX0 : String := "LightPropagator$Batch"
def TX0 : u_T := fun k => match k with
  | 0 => ("LightPropagator$Batch", "cells", "[I", true)
  | 1 => ("LightPropagator$Batch", "newTypes", "[I", true)
  | 2 => ("LightPropagator$Batch", "size", "I", false)
  | _ => ("LightPropagator$Batch", "isOpen", "Z", false)
def tyX0 : Nat → FieldType := fun k => match k with
  | 0 => .array .int
  | 1 => .array .int
  | 2 => .int
  | _ => .boolean
abbrev wsX00 : List Cond := u_ws RX0 TX0 4
theorem nmX0 : ∀ a, a < 4 → ∀ b, b < 4 → a ≠ b → (TX0 a).2.1 ≠ (TX0 b).2.1 := by decide +kernel
theorem tyX0_ok : ∀ k, k < 4 → parseFieldDescriptor (TX0 k).2.2.1 = some (tyX0 k) := by decide +kernel
abbrev cX0_init : ByteArray := prog_2_method_1_code
def yX0_init : MethodName := ⟨RX0, "<init>", "()V"⟩
abbrev cX0_collect : ByteArray := prog_2_method_2_code
def yX0_collect : MethodName := ⟨RX0, "collect", "(II)I"⟩
abbrev cX0_makeEdits : ByteArray := prog_2_method_3_code
def yX0_makeEdits : MethodName := ⟨RX0, "makeEdits", "(LLightPropagator$World;)V"⟩
abbrev cX0_leave : ByteArray := prog_2_method_4_code
def yX0_leave : MethodName := ⟨RX0, "leave", "()V"⟩
def RX1 : String := "LightPropagator$CommandText"
def TX1 : u_T := fun k => match k with
  | 0 => ("LightPropagator$CommandText", "signs", "[C", true)
  | 1 => ("LightPropagator$CommandText", "length", "I", false)
  | 2 => ("LightPropagator$CommandText", "position", "I", false)
  | 3 => ("LightPropagator$CommandText", "kinds", "[C", true)
  | 4 => ("LightPropagator$CommandText", "starts", "[I", true)
  | 5 => ("LightPropagator$CommandText", "numbers", "[[I", true)
  | _ => ("LightPropagator$CommandText", "commands", "I", false)
def tyX1 : Nat → FieldType := fun k => match k with
  | 0 => .array .char
  | 1 => .int
  | 2 => .int
  | 3 => .array .char
  | 4 => .array .int
  | 5 => .array (.array .int)
  | _ => .int
abbrev wsX10 : List Cond := u_ws RX1 TX1 7
theorem nmX1 : ∀ a, a < 7 → ∀ b, b < 7 → a ≠ b → (TX1 a).2.1 ≠ (TX1 b).2.1 := by decide +kernel
theorem tyX1_ok : ∀ k, k < 7 → parseFieldDescriptor (TX1 k).2.2.1 = some (tyX1 k) := by decide +kernel
abbrev cX1_init : ByteArray := prog_3_method_1_code
def yX1_init : MethodName := ⟨RX1, "<init>", "()V"⟩
abbrev cX1_add : ByteArray := prog_3_method_2_code
def yX1_add : MethodName := ⟨RX1, "add", "(I)I"⟩
abbrev cX1_parse : ByteArray := prog_3_method_3_code
def yX1_parse : MethodName := ⟨RX1, "parse", "()I"⟩
abbrev cX1_parseCommand : ByteArray := prog_3_method_4_code
def yX1_parseCommand : MethodName := ⟨RX1, "parseCommand", "(I)Z"⟩
abbrev cX1_parseNumber : ByteArray := prog_3_method_5_code
def yX1_parseNumber : MethodName := ⟨RX1, "parseNumber", "(II)Z"⟩
abbrev cX1_isDigitNext : ByteArray := prog_3_method_6_code
def yX1_isDigitNext : MethodName := ⟨RX1, "isDigitNext", "()Z"⟩
abbrev cX1_skip : ByteArray := prog_3_method_7_code
def yX1_skip : MethodName := ⟨RX1, "skip", "(C)Z"⟩
abbrev cX1_countOfNumbers : ByteArray := prog_3_method_8_code
def yX1_countOfNumbers : MethodName := ⟨RX1, "countOfNumbers", "(C)I"⟩
abbrev cX1_lastSeparator : ByteArray := prog_3_method_9_code
def yX1_lastSeparator : MethodName := ⟨RX1, "lastSeparator", "(C)C"⟩
abbrev cX1_firstRefused : ByteArray := prog_3_method_10_code
def yX1_firstRefused : MethodName := ⟨RX1, "firstRefused", "()I"⟩
abbrev cX1_isRefused : ByteArray := prog_3_method_11_code
def yX1_isRefused : MethodName := ⟨RX1, "isRefused", "(C[I)Z"⟩
abbrev cX1_execute : ByteArray := prog_3_method_12_code
def yX1_execute : MethodName := ⟨RX1, "execute", "(LLightPropagator$World;)V"⟩
abbrev cX1_make : ByteArray := prog_3_method_13_code
def yX1_make : MethodName := ⟨RX1, "make", "(C[ILLightPropagator$World;)V"⟩
def RX2 : String := "LightPropagator$Grid"
def TX2 : u_T := fun k => match k with
  | _ => ("", "", "", false)
def tyX2 : Nat → FieldType := fun k => match k with
  | _ => .int
abbrev wsX20 : List Cond := u_ws RX2 TX2 0
theorem nmX2 : ∀ a, a < 0 → ∀ b, b < 0 → a ≠ b → (TX2 a).2.1 ≠ (TX2 b).2.1 := by decide +kernel
theorem tyX2_ok : ∀ k, k < 0 → parseFieldDescriptor (TX2 k).2.2.1 = some (tyX2 k) := by decide +kernel
abbrev cX2_has : ByteArray := prog_4_method_2_code
def yX2_has : MethodName := ⟨RX2, "has", "(III)Z"⟩
abbrev cX2_cell : ByteArray := prog_4_method_3_code
def yX2_cell : MethodName := ⟨RX2, "cell", "(III)I"⟩
abbrev cX2_x : ByteArray := prog_4_method_4_code
def yX2_x : MethodName := ⟨RX2, "x", "(I)I"⟩
abbrev cX2_y : ByteArray := prog_4_method_5_code
def yX2_y : MethodName := ⟨RX2, "y", "(I)I"⟩
abbrev cX2_z : ByteArray := prog_4_method_6_code
def yX2_z : MethodName := ⟨RX2, "z", "(I)I"⟩
abbrev cX2_number : ByteArray := prog_4_method_7_code
def yX2_number : MethodName := ⟨RX2, "number", "(I)I"⟩
abbrev cX2_chunk : ByteArray := prog_4_method_8_code
def yX2_chunk : MethodName := ⟨RX2, "chunk", "(I)I"⟩
abbrev cX2_neighbor : ByteArray := prog_4_method_9_code
def yX2_neighbor : MethodName := ⟨RX2, "neighbor", "(II)I"⟩
def RX3 : String := "LightPropagator$History"
def TX3 : u_T := fun k => match k with
  | 0 => ("LightPropagator$History", "earlier", "[LLightPropagator$World;", true)
  | 1 => ("LightPropagator$History", "newest", "I", false)
  | _ => ("LightPropagator$History", "size", "I", false)
def tyX3 : Nat → FieldType := fun k => match k with
  | 0 => .array (.object "LightPropagator$World")
  | 1 => .int
  | _ => .int
abbrev wsX30 : List Cond := u_ws RX3 TX3 3
theorem nmX3 : ∀ a, a < 3 → ∀ b, b < 3 → a ≠ b → (TX3 a).2.1 ≠ (TX3 b).2.1 := by decide +kernel
theorem tyX3_ok : ∀ k, k < 3 → parseFieldDescriptor (TX3 k).2.2.1 = some (tyX3 k) := by decide +kernel
abbrev cX3_init : ByteArray := prog_5_method_1_code
def yX3_init : MethodName := ⟨RX3, "<init>", "()V"⟩
abbrev cX3_push : ByteArray := prog_5_method_2_code
def yX3_push : MethodName := ⟨RX3, "push", "(LLightPropagator$World;)V"⟩
abbrev cX3_pop : ByteArray := prog_5_method_3_code
def yX3_pop : MethodName := ⟨RX3, "pop", "(LLightPropagator$World;)V"⟩
def RX4 : String := "LightPropagator$Lighting"
def TX4 : u_T := fun k => match k with
  | 0 => ("LightPropagator$Lighting", "firstOfLevel", "[I", true)
  | 1 => ("LightPropagator$Lighting", "nextEntry", "[I", true)
  | 2 => ("LightPropagator$Lighting", "cellOfEntry", "[I", true)
  | _ => ("LightPropagator$Lighting", "entries", "I", false)
def tyX4 : Nat → FieldType := fun k => match k with
  | 0 => .array .int
  | 1 => .array .int
  | 2 => .array .int
  | _ => .int
abbrev wsX40 : List Cond := u_ws RX4 TX4 4
theorem nmX4 : ∀ a, a < 4 → ∀ b, b < 4 → a ≠ b → (TX4 a).2.1 ≠ (TX4 b).2.1 := by decide +kernel
theorem tyX4_ok : ∀ k, k < 4 → parseFieldDescriptor (TX4 k).2.2.1 = some (tyX4 k) := by decide +kernel
abbrev cX4_init : ByteArray := prog_6_method_1_code
def yX4_init : MethodName := ⟨RX4, "<init>", "()V"⟩
abbrev cX4_find : ByteArray := prog_6_method_2_code
def yX4_find : MethodName := ⟨RX4, "find", "(LLightPropagator$World;II[I)V"⟩
abbrev cX4_enterEmissions : ByteArray := prog_6_method_3_code
def yX4_enterEmissions : MethodName := ⟨RX4, "enterEmissions", "(LLightPropagator$World;II[I)V"⟩
abbrev cX4_enterSun : ByteArray := prog_6_method_4_code
def yX4_enterSun : MethodName := ⟨RX4, "enterSun", "(LLightPropagator$World;[I)V"⟩
abbrev cX4_give : ByteArray := prog_6_method_5_code
def yX4_give : MethodName := ⟨RX4, "give", "(LLightPropagator$World;II[I)V"⟩
abbrev cX4_enter : ByteArray := prog_6_method_6_code
def yX4_enter : MethodName := ⟨RX4, "enter", "(II[I)V"⟩
def RX5 : String := "LightPropagator$World"
def TX5 : u_T := fun k => match k with
  | 0 => ("LightPropagator$World", "types", "[I", true)
  | 1 => ("LightPropagator$World", "losses", "[I", true)
  | _ => ("LightPropagator$World", "emissions", "[I", true)
def tyX5 : Nat → FieldType := fun k => match k with
  | 0 => .array .int
  | 1 => .array .int
  | _ => .array .int
abbrev wsX50 : List Cond := u_ws RX5 TX5 3
theorem nmX5 : ∀ a, a < 3 → ∀ b, b < 3 → a ≠ b → (TX5 a).2.1 ≠ (TX5 b).2.1 := by decide +kernel
theorem tyX5_ok : ∀ k, k < 3 → parseFieldDescriptor (TX5 k).2.2.1 = some (tyX5 k) := by decide +kernel
abbrev cX5_init : ByteArray := prog_7_method_1_code
def yX5_init : MethodName := ⟨RX5, "<init>", "()V"⟩
abbrev cX5_copyFrom : ByteArray := prog_7_method_2_code
def yX5_copyFrom : MethodName := ⟨RX5, "copyFrom", "(LLightPropagator$World;)V"⟩
abbrev cX5_lossAt : ByteArray := prog_7_method_3_code
def yX5_lossAt : MethodName := ⟨RX5, "lossAt", "(II)I"⟩
abbrev cX5_emissionAt : ByteArray := prog_7_method_4_code
def yX5_emissionAt : MethodName := ⟨RX5, "emissionAt", "(II)I"⟩
abbrev cX5_setBox : ByteArray := prog_7_method_5_code
def yX5_setBox : MethodName := ⟨RX5, "setBox", "(III)V"⟩
abbrev cX5_countFilled : ByteArray := prog_7_method_6_code
def yX5_countFilled : MethodName := ⟨RX5, "countFilled", "()I"⟩
def RX6 : String := "LightPropagator"
def TX6 : u_T := fun k => match k with
  | 0 => ("LightPropagator", "world", "LLightPropagator$World;", true)
  | 1 => ("LightPropagator", "lights", "[[I", true)
  | 2 => ("LightPropagator", "lighting", "LLightPropagator$Lighting;", true)
  | 3 => ("LightPropagator", "trial", "[I", true)
  | 4 => ("LightPropagator", "waiting", "[I", true)
  | 5 => ("LightPropagator", "inEffect", "[Z", true)
  | 6 => ("LightPropagator", "effectSize", "I", false)
  | 7 => ("LightPropagator", "batch", "LLightPropagator$Batch;", true)
  | 8 => ("LightPropagator", "history", "LLightPropagator$History;", true)
  | 9 => ("LightPropagator", "saved", "LLightPropagator$World;", true)
  | 10 => ("LightPropagator", "isSaved", "Z", false)
  | 11 => ("LightPropagator", "text", "LLightPropagator$CommandText;", true)
  | _ => ("LightPropagator", "fault", "I", false)
def tyX6 : Nat → FieldType := fun k => match k with
  | 0 => .object "LightPropagator$World"
  | 1 => .array (.array .int)
  | 2 => .object "LightPropagator$Lighting"
  | 3 => .array .int
  | 4 => .array .int
  | 5 => .array .boolean
  | 6 => .int
  | 7 => .object "LightPropagator$Batch"
  | 8 => .object "LightPropagator$History"
  | 9 => .object "LightPropagator$World"
  | 10 => .boolean
  | 11 => .object "LightPropagator$CommandText"
  | _ => .int
abbrev wsX60 : List Cond := u_ws RX6 TX6 13
theorem nmX6 : ∀ a, a < 13 → ∀ b, b < 13 → a ≠ b → (TX6 a).2.1 ≠ (TX6 b).2.1 := by decide +kernel
theorem tyX6_ok : ∀ k, k < 13 → parseFieldDescriptor (TX6 k).2.2.1 = some (tyX6 k) := by decide +kernel
abbrev cX6_init : ByteArray := prog_1_method_1_code
def yX6_init : MethodName := ⟨RX6, "<init>", "()V"⟩
abbrev cX6_set : ByteArray := prog_1_method_2_code
def yX6_set : MethodName := ⟨RX6, "set", "(IIII)I"⟩
abbrev cX6_openBatch : ByteArray := prog_1_method_3_code
def yX6_openBatch : MethodName := ⟨RX6, "openBatch", "()I"⟩
abbrev cX6_closeBatch : ByteArray := prog_1_method_4_code
def yX6_closeBatch : MethodName := ⟨RX6, "closeBatch", "()I"⟩
abbrev cX6_dropBatch : ByteArray := prog_1_method_5_code
def yX6_dropBatch : MethodName := ⟨RX6, "dropBatch", "()I"⟩
abbrev cX6_fill : ByteArray := prog_1_method_6_code
def yX6_fill : MethodName := ⟨RX6, "fill", "(IIIIII)I"⟩
abbrev cX6_setLoss : ByteArray := prog_1_method_7_code
def yX6_setLoss : MethodName := ⟨RX6, "setLoss", "(III)I"⟩
abbrev cX6_setEmission : ByteArray := prog_1_method_8_code
def yX6_setEmission : MethodName := ⟨RX6, "setEmission", "(III)I"⟩
abbrev cX6_append : ByteArray := prog_1_method_9_code
def yX6_append : MethodName := ⟨RX6, "append", "(I)I"⟩
abbrev cX6_read : ByteArray := prog_1_method_10_code
def yX6_read : MethodName := ⟨RX6, "read", "()I"⟩
abbrev cX6_faultPosition : ByteArray := prog_1_method_11_code
def yX6_faultPosition : MethodName := ⟨RX6, "faultPosition", "()I"⟩
abbrev cX6_undo : ByteArray := prog_1_method_12_code
def yX6_undo : MethodName := ⟨RX6, "undo", "()I"⟩
abbrev cX6_type : ByteArray := prog_1_method_13_code
def yX6_type : MethodName := ⟨RX6, "type", "(III)I"⟩
abbrev cX6_loss : ByteArray := prog_1_method_14_code
def yX6_loss : MethodName := ⟨RX6, "loss", "(II)I"⟩
abbrev cX6_emission : ByteArray := prog_1_method_15_code
def yX6_emission : MethodName := ⟨RX6, "emission", "(II)I"⟩
abbrev cX6_light : ByteArray := prog_1_method_16_code
def yX6_light : MethodName := ⟨RX6, "light", "(IIII)I"⟩
abbrev cX6_lights : ByteArray := prog_1_method_17_code
def yX6_lights : MethodName := ⟨RX6, "lights", "(III)I"⟩
abbrev cX6_origin : ByteArray := prog_1_method_18_code
def yX6_origin : MethodName := ⟨RX6, "origin", "(IIII)I"⟩
abbrev cX6_wayLength : ByteArray := prog_1_method_19_code
def yX6_wayLength : MethodName := ⟨RX6, "wayLength", "(IIII)I"⟩
abbrev cX6_wayEnd : ByteArray := prog_1_method_20_code
def yX6_wayEnd : MethodName := ⟨RX6, "wayEnd", "(IIII)I"⟩
abbrev cX6_batchSize : ByteArray := prog_1_method_21_code
def yX6_batchSize : MethodName := ⟨RX6, "batchSize", "()I"⟩
abbrev cX6_effect : ByteArray := prog_1_method_22_code
def yX6_effect : MethodName := ⟨RX6, "effect", "(I)I"⟩
abbrev cX6_effectChunks : ByteArray := prog_1_method_23_code
def yX6_effectChunks : MethodName := ⟨RX6, "effectChunks", "()I"⟩
abbrev cX6_lightIf : ByteArray := prog_1_method_24_code
def yX6_lightIf : MethodName := ⟨RX6, "lightIf", "(IIIII)I"⟩
abbrev cX6_spread : ByteArray := prog_1_method_25_code
def yX6_spread : MethodName := ⟨RX6, "spread", "(IIII)I"⟩
abbrev cX6_needed : ByteArray := prog_1_method_26_code
def yX6_needed : MethodName := ⟨RX6, "needed", "(IIIII)I"⟩
abbrev cX6_chunkSum : ByteArray := prog_1_method_27_code
def yX6_chunkSum : MethodName := ⟨RX6, "chunkSum", "(II)I"⟩
abbrev cX6_crossings : ByteArray := prog_1_method_28_code
def yX6_crossings : MethodName := ⟨RX6, "crossings", "(III)I"⟩
abbrev cX6_dark : ByteArray := prog_1_method_29_code
def yX6_dark : MethodName := ⟨RX6, "dark", "(I)I"⟩
abbrev cX6_skyHeight : ByteArray := prog_1_method_30_code
def yX6_skyHeight : MethodName := ⟨RX6, "skyHeight", "(II)I"⟩
abbrev cX6_ray : ByteArray := prog_1_method_31_code
def yX6_ray : MethodName := ⟨RX6, "ray", "(IIIII)I"⟩
abbrev cX6_brightest : ByteArray := prog_1_method_32_code
def yX6_brightest : MethodName := ⟨RX6, "brightest", "(I)I"⟩
abbrev cX6_regions : ByteArray := prog_1_method_33_code
def yX6_regions : MethodName := ⟨RX6, "regions", "(I)I"⟩
abbrev cX6_isConsistent : ByteArray := prog_1_method_34_code
def yX6_isConsistent : MethodName := ⟨RX6, "isConsistent", "()I"⟩
abbrev cX6_histogram : ByteArray := prog_1_method_35_code
def yX6_histogram : MethodName := ⟨RX6, "histogram", "(II)I"⟩
abbrev cX6_checksum : ByteArray := prog_1_method_36_code
def yX6_checksum : MethodName := ⟨RX6, "checksum", "()J"⟩
abbrev cX6_save : ByteArray := prog_1_method_37_code
def yX6_save : MethodName := ⟨RX6, "save", "()I"⟩
abbrev cX6_restore : ByteArray := prog_1_method_38_code
def yX6_restore : MethodName := ⟨RX6, "restore", "()I"⟩
abbrev cX6_isType : ByteArray := prog_1_method_39_code
def yX6_isType : MethodName := ⟨RX6, "isType", "(I)Z"⟩
abbrev cX6_isChannel : ByteArray := prog_1_method_40_code
def yX6_isChannel : MethodName := ⟨RX6, "isChannel", "(I)Z"⟩
abbrev cX6_isColor : ByteArray := prog_1_method_41_code
def yX6_isColor : MethodName := ⟨RX6, "isColor", "(I)Z"⟩
abbrev cX6_isStrength : ByteArray := prog_1_method_42_code
def yX6_isStrength : MethodName := ⟨RX6, "isStrength", "(I)Z"⟩
abbrev cX6_isChunk : ByteArray := prog_1_method_43_code
def yX6_isChunk : MethodName := ⟨RX6, "isChunk", "(I)Z"⟩
abbrev cX6_clearEffect : ByteArray := prog_1_method_44_code
def yX6_clearEffect : MethodName := ⟨RX6, "clearEffect", "()V"⟩
abbrev cX6_relight : ByteArray := prog_1_method_45_code
def yX6_relight : MethodName := ⟨RX6, "relight", "()I"⟩
abbrev cX6_takeTrial : ByteArray := prog_1_method_46_code
def yX6_takeTrial : MethodName := ⟨RX6, "takeTrial", "([I)V"⟩
abbrev cX6_packedLights : ByteArray := prog_1_method_47_code
def yX6_packedLights : MethodName := ⟨RX6, "packedLights", "(I)I"⟩
abbrev cX6_brightestColor : ByteArray := prog_1_method_48_code
def yX6_brightestColor : MethodName := ⟨RX6, "brightestColor", "(I)I"⟩
abbrev cX6_originOf : ByteArray := prog_1_method_49_code
def yX6_originOf : MethodName := ⟨RX6, "originOf", "(II)I"⟩
abbrev cX6_giverOf : ByteArray := prog_1_method_50_code
def yX6_giverOf : MethodName := ⟨RX6, "giverOf", "(II)I"⟩
abbrev cX6_leaveRegion : ByteArray := prog_1_method_51_code
def yX6_leaveRegion : MethodName := ⟨RX6, "leaveRegion", "(I)V"⟩
def RX7 : String := "LightPropagatorModel"
def TX7 : u_T := fun k => match k with
  | 0 => ("LightPropagatorModel", "m", "[I", true)
  | 1 => ("LightPropagatorModel", "saved", "[I", true)
  | 2 => ("LightPropagatorModel", "isSaved", "Z", false)
  | 3 => ("LightPropagatorModel", "past", "[I", true)
  | 4 => ("LightPropagatorModel", "changes", "I", false)
  | 5 => ("LightPropagatorModel", "lights", "[I", true)
  | 6 => ("LightPropagatorModel", "isIn", "[Z", true)
  | 7 => ("LightPropagatorModel", "laid", "[I", true)
  | 8 => ("LightPropagatorModel", "otherCell", "I", false)
  | 9 => ("LightPropagatorModel", "otherType", "I", false)
  | 10 => ("LightPropagatorModel", "otherEmission", "I", false)
  | 11 => ("LightPropagatorModel", "isBatch", "Z", false)
  | 12 => ("LightPropagatorModel", "edits", "I", false)
  | 13 => ("LightPropagatorModel", "editCell", "[I", true)
  | 14 => ("LightPropagatorModel", "editType", "[I", true)
  | 15 => ("LightPropagatorModel", "chars", "I", false)
  | 16 => ("LightPropagatorModel", "text", "[I", true)
  | 17 => ("LightPropagatorModel", "fault", "I", false)
  | 18 => ("LightPropagatorModel", "size", "I", false)
  | 19 => ("LightPropagatorModel", "at", "I", false)
  | 20 => ("LightPropagatorModel", "isBad", "Z", false)
  | 21 => ("LightPropagatorModel", "commands", "I", false)
  | 22 => ("LightPropagatorModel", "command", "[I", true)
  | 23 => ("LightPropagatorModel", "wayMany", "I", false)
  | 24 => ("LightPropagatorModel", "isOpen", "[Z", true)
  | _ => ("LightPropagatorModel", "atHand", "[I", true)
def tyX7 : Nat → FieldType := fun k => match k with
  | 0 => .array .int
  | 1 => .array .int
  | 2 => .boolean
  | 3 => .array .int
  | 4 => .int
  | 5 => .array .int
  | 6 => .array .boolean
  | 7 => .array .int
  | 8 => .int
  | 9 => .int
  | 10 => .int
  | 11 => .boolean
  | 12 => .int
  | 13 => .array .int
  | 14 => .array .int
  | 15 => .int
  | 16 => .array .int
  | 17 => .int
  | 18 => .int
  | 19 => .int
  | 20 => .boolean
  | 21 => .int
  | 22 => .array .int
  | 23 => .int
  | 24 => .array .boolean
  | _ => .array .int
abbrev wsX70 : List Cond := u_ws RX7 TX7 26
theorem nmX7 : ∀ a, a < 26 → ∀ b, b < 26 → a ≠ b → (TX7 a).2.1 ≠ (TX7 b).2.1 := by decide +kernel
theorem tyX7_ok : ∀ k, k < 26 → parseFieldDescriptor (TX7 k).2.2.1 = some (tyX7 k) := by decide +kernel
abbrev cX7_init : ByteArray := prog_9_method_1_code
def yX7_init : MethodName := ⟨RX7, "<init>", "()V"⟩
abbrev cX7_in : ByteArray := prog_9_method_3_code
def yX7_in : MethodName := ⟨RX7, "in", "(III)Z"⟩
abbrev cX7_isCell : ByteArray := prog_9_method_4_code
def yX7_isCell : MethodName := ⟨RX7, "isCell", "(III)Z"⟩
abbrev cX7_cell : ByteArray := prog_9_method_5_code
def yX7_cell : MethodName := ⟨RX7, "cell", "(III)I"⟩
abbrev cX7_xOf : ByteArray := prog_9_method_6_code
def yX7_xOf : MethodName := ⟨RX7, "xOf", "(I)I"⟩
abbrev cX7_yOf : ByteArray := prog_9_method_7_code
def yX7_yOf : MethodName := ⟨RX7, "yOf", "(I)I"⟩
abbrev cX7_zOf : ByteArray := prog_9_method_8_code
def yX7_zOf : MethodName := ⟨RX7, "zOf", "(I)I"⟩
abbrev cX7_code : ByteArray := prog_9_method_9_code
def yX7_code : MethodName := ⟨RX7, "code", "(I)I"⟩
abbrev cX7_chunkOf : ByteArray := prog_9_method_10_code
def yX7_chunkOf : MethodName := ⟨RX7, "chunkOf", "(I)I"⟩
abbrev cX7_next : ByteArray := prog_9_method_11_code
def yX7_next : MethodName := ⟨RX7, "next", "(II)I"⟩
abbrev cX7_typeOf : ByteArray := prog_9_method_12_code
def yX7_typeOf : MethodName := ⟨RX7, "typeOf", "(I)I"⟩
abbrev cX7_lossOf : ByteArray := prog_9_method_13_code
def yX7_lossOf : MethodName := ⟨RX7, "lossOf", "(II)I"⟩
abbrev cX7_emissionOf : ByteArray := prog_9_method_14_code
def yX7_emissionOf : MethodName := ⟨RX7, "emissionOf", "(II)I"⟩
abbrev cX7_raise : ByteArray := prog_9_method_15_code
def yX7_raise : MethodName := ⟨RX7, "raise", "(II)V"⟩
abbrev cX7_laySun : ByteArray := prog_9_method_16_code
def yX7_laySun : MethodName := ⟨RX7, "laySun", "()V"⟩
abbrev cX7_lay : ByteArray := prog_9_method_17_code
def yX7_lay : MethodName := ⟨RX7, "lay", "(I)V"⟩
abbrev cX7_layAll : ByteArray := prog_9_method_18_code
def yX7_layAll : MethodName := ⟨RX7, "layAll", "()V"⟩
abbrev cX7_layWith : ByteArray := prog_9_method_19_code
def yX7_layWith : MethodName := ⟨RX7, "layWith", "(IIII)V"⟩
abbrev cX7_keep : ByteArray := prog_9_method_20_code
def yX7_keep : MethodName := ⟨RX7, "keep", "()V"⟩
abbrev cX7_effectMany : ByteArray := prog_9_method_21_code
def yX7_effectMany : MethodName := ⟨RX7, "effectMany", "()I"⟩
abbrev cX7_changed : ByteArray := prog_9_method_22_code
def yX7_changed : MethodName := ⟨RX7, "changed", "()I"⟩
abbrev cX7_collect : ByteArray := prog_9_method_23_code
def yX7_collect : MethodName := ⟨RX7, "collect", "(II)I"⟩
abbrev cX7_isType : ByteArray := prog_9_method_24_code
def yX7_isType : MethodName := ⟨RX7, "isType", "(I)Z"⟩
abbrev cX7_set : ByteArray := prog_9_method_25_code
def yX7_set : MethodName := ⟨RX7, "set", "(IIII)I"⟩
abbrev cX7_openBatch : ByteArray := prog_9_method_26_code
def yX7_openBatch : MethodName := ⟨RX7, "openBatch", "()I"⟩
abbrev cX7_closeBatch : ByteArray := prog_9_method_27_code
def yX7_closeBatch : MethodName := ⟨RX7, "closeBatch", "()I"⟩
abbrev cX7_dropBatch : ByteArray := prog_9_method_28_code
def yX7_dropBatch : MethodName := ⟨RX7, "dropBatch", "()I"⟩
abbrev cX7_lays : ByteArray := prog_9_method_29_code
def yX7_lays : MethodName := ⟨RX7, "lays", "(IIIIIII)V"⟩
abbrev cX7_fill : ByteArray := prog_9_method_30_code
def yX7_fill : MethodName := ⟨RX7, "fill", "(IIIIII)I"⟩
abbrev cX7_setLoss : ByteArray := prog_9_method_31_code
def yX7_setLoss : MethodName := ⟨RX7, "setLoss", "(III)I"⟩
abbrev cX7_setEmission : ByteArray := prog_9_method_32_code
def yX7_setEmission : MethodName := ⟨RX7, "setEmission", "(III)I"⟩
abbrev cX7_append : ByteArray := prog_9_method_33_code
def yX7_append : MethodName := ⟨RX7, "append", "(I)I"⟩
abbrev cX7_here : ByteArray := prog_9_method_34_code
def yX7_here : MethodName := ⟨RX7, "here", "()I"⟩
abbrev cX7_take : ByteArray := prog_9_method_35_code
def yX7_take : MethodName := ⟨RX7, "take", "(I)V"⟩
abbrev cX7_number : ByteArray := prog_9_method_36_code
def yX7_number : MethodName := ⟨RX7, "number", "()I"⟩
abbrev cX7_readOne : ByteArray := prog_9_method_37_code
def yX7_readOne : MethodName := ⟨RX7, "readOne", "()V"⟩
abbrev cX7_isGood : ByteArray := prog_9_method_38_code
def yX7_isGood : MethodName := ⟨RX7, "isGood", "(I)Z"⟩
abbrev cX7_execute : ByteArray := prog_9_method_39_code
def yX7_execute : MethodName := ⟨RX7, "execute", "(I)V"⟩
abbrev cX7_read : ByteArray := prog_9_method_40_code
def yX7_read : MethodName := ⟨RX7, "read", "()I"⟩
abbrev cX7_faultPosition : ByteArray := prog_9_method_41_code
def yX7_faultPosition : MethodName := ⟨RX7, "faultPosition", "()I"⟩
abbrev cX7_undo : ByteArray := prog_9_method_42_code
def yX7_undo : MethodName := ⟨RX7, "undo", "()I"⟩
abbrev cX7_type : ByteArray := prog_9_method_43_code
def yX7_type : MethodName := ⟨RX7, "type", "(III)I"⟩
abbrev cX7_loss : ByteArray := prog_9_method_44_code
def yX7_loss : MethodName := ⟨RX7, "loss", "(II)I"⟩
abbrev cX7_emission : ByteArray := prog_9_method_45_code
def yX7_emission : MethodName := ⟨RX7, "emission", "(II)I"⟩
abbrev cX7_lightOf : ByteArray := prog_9_method_46_code
def yX7_lightOf : MethodName := ⟨RX7, "lightOf", "(II)I"⟩
abbrev cX7_light : ByteArray := prog_9_method_47_code
def yX7_light : MethodName := ⟨RX7, "light", "(IIII)I"⟩
abbrev cX7_lightsOf : ByteArray := prog_9_method_48_code
def yX7_lightsOf : MethodName := ⟨RX7, "lightsOf", "(I)I"⟩
abbrev cX7_lights : ByteArray := prog_9_method_49_code
def yX7_lights : MethodName := ⟨RX7, "lights", "(III)I"⟩
abbrev cX7_originOf : ByteArray := prog_9_method_50_code
def yX7_originOf : MethodName := ⟨RX7, "originOf", "(II)I"⟩
abbrev cX7_origin : ByteArray := prog_9_method_51_code
def yX7_origin : MethodName := ⟨RX7, "origin", "(IIII)I"⟩
abbrev cX7_goBack : ByteArray := prog_9_method_52_code
def yX7_goBack : MethodName := ⟨RX7, "goBack", "(II)I"⟩
abbrev cX7_wayLength : ByteArray := prog_9_method_53_code
def yX7_wayLength : MethodName := ⟨RX7, "wayLength", "(IIII)I"⟩
abbrev cX7_wayEnd : ByteArray := prog_9_method_54_code
def yX7_wayEnd : MethodName := ⟨RX7, "wayEnd", "(IIII)I"⟩
abbrev cX7_batchSize : ByteArray := prog_9_method_55_code
def yX7_batchSize : MethodName := ⟨RX7, "batchSize", "()I"⟩
abbrev cX7_effect : ByteArray := prog_9_method_56_code
def yX7_effect : MethodName := ⟨RX7, "effect", "(I)I"⟩
abbrev cX7_effectChunks : ByteArray := prog_9_method_57_code
def yX7_effectChunks : MethodName := ⟨RX7, "effectChunks", "()I"⟩
abbrev cX7_lightIf : ByteArray := prog_9_method_58_code
def yX7_lightIf : MethodName := ⟨RX7, "lightIf", "(IIIII)I"⟩
abbrev cX7_spread : ByteArray := prog_9_method_59_code
def yX7_spread : MethodName := ⟨RX7, "spread", "(IIII)I"⟩
abbrev cX7_needed : ByteArray := prog_9_method_60_code
def yX7_needed : MethodName := ⟨RX7, "needed", "(IIIII)I"⟩
abbrev cX7_chunkSum : ByteArray := prog_9_method_61_code
def yX7_chunkSum : MethodName := ⟨RX7, "chunkSum", "(II)I"⟩
abbrev cX7_crossings : ByteArray := prog_9_method_62_code
def yX7_crossings : MethodName := ⟨RX7, "crossings", "(III)I"⟩
abbrev cX7_dark : ByteArray := prog_9_method_63_code
def yX7_dark : MethodName := ⟨RX7, "dark", "(I)I"⟩
abbrev cX7_skyHeight : ByteArray := prog_9_method_64_code
def yX7_skyHeight : MethodName := ⟨RX7, "skyHeight", "(II)I"⟩
abbrev cX7_ray : ByteArray := prog_9_method_65_code
def yX7_ray : MethodName := ⟨RX7, "ray", "(IIIII)I"⟩
abbrev cX7_brightest : ByteArray := prog_9_method_66_code
def yX7_brightest : MethodName := ⟨RX7, "brightest", "(I)I"⟩
abbrev cX7_takeRegion : ByteArray := prog_9_method_67_code
def yX7_takeRegion : MethodName := ⟨RX7, "takeRegion", "(I)V"⟩
abbrev cX7_regions : ByteArray := prog_9_method_68_code
def yX7_regions : MethodName := ⟨RX7, "regions", "(I)I"⟩
abbrev cX7_isConsistent : ByteArray := prog_9_method_69_code
def yX7_isConsistent : MethodName := ⟨RX7, "isConsistent", "()I"⟩
abbrev cX7_histogram : ByteArray := prog_9_method_70_code
def yX7_histogram : MethodName := ⟨RX7, "histogram", "(II)I"⟩
abbrev cX7_checksum : ByteArray := prog_9_method_71_code
def yX7_checksum : MethodName := ⟨RX7, "checksum", "()J"⟩
abbrev cX7_blocks : ByteArray := prog_9_method_72_code
def yX7_blocks : MethodName := ⟨RX7, "blocks", "()I"⟩
abbrev cX7_save : ByteArray := prog_9_method_73_code
def yX7_save : MethodName := ⟨RX7, "save", "()I"⟩
abbrev cX7_restore : ByteArray := prog_9_method_74_code
def yX7_restore : MethodName := ⟨RX7, "restore", "()I"⟩
def RJ9 : String := "java/lang/Math"
abbrev cJ9_max_7cf53 : ByteArray := prog_10_method_65_code
def yJ9_max_7cf53 : MethodName := ⟨RJ9, "max", "(II)I"⟩
abbrev cJ9_min_7cf53 : ByteArray := prog_10_method_69_code
def yJ9_min_7cf53 : MethodName := ⟨RJ9, "min", "(II)I"⟩
def RJ10 : String := "java/lang/System"
def RL : String := "LightPropagatorLaw"
abbrev cL_law : ByteArray := code
def yL_law : MethodName := ⟨RL, "law", "([I)Z"⟩
theorem dX0_init_0 : decode cX0_init 0 = .ok (.aload_n 0, 1) := by decide +kernel
theorem dX0_init_1 : decode cX0_init 1 = .ok (.invokespecial 3, 3) := by decide +kernel
theorem dX0_init_4 : decode cX0_init 4 = .ok (.aload_n 0, 1) := by decide +kernel
theorem dX0_init_5 : decode cX0_init 5 = .ok (.bipush 40, 2) := by decide +kernel
theorem dX0_init_7 : decode cX0_init 7 = .ok (.newarray .int, 2) := by decide +kernel
theorem dX0_init_9 : decode cX0_init 9 = .ok (.putfield 9, 3) := by decide +kernel
theorem dX0_init_12 : decode cX0_init 12 = .ok (.aload_n 0, 1) := by decide +kernel
theorem dX0_init_13 : decode cX0_init 13 = .ok (.bipush 40, 2) := by decide +kernel
theorem dX0_init_15 : decode cX0_init 15 = .ok (.newarray .int, 2) := by decide +kernel
theorem dX0_init_17 : decode cX0_init 17 = .ok (.putfield 15, 3) := by decide +kernel
theorem dX0_init_20 : decode cX0_init 20 = .ok (.aload_n 0, 1) := by decide +kernel
theorem dX0_init_21 : decode cX0_init 21 = .ok (.iconst 0, 1) := by decide +kernel
theorem dX0_init_22 : decode cX0_init 22 = .ok (.putfield 18, 3) := by decide +kernel
theorem dX0_init_25 : decode cX0_init 25 = .ok (.aload_n 0, 1) := by decide +kernel
theorem dX0_init_26 : decode cX0_init 26 = .ok (.iconst 0, 1) := by decide +kernel
theorem dX0_init_27 : decode cX0_init 27 = .ok (.putfield 22, 3) := by decide +kernel
theorem dX0_init_30 : decode cX0_init 30 = .ok (.return_, 1) := by decide +kernel
theorem dX0_collect_0 : decode cX0_collect 0 = .ok (.iconst 0, 1) := by decide +kernel
theorem dX0_collect_1 : decode cX0_collect 1 = .ok (.istore_n 3, 1) := by decide +kernel
theorem dX0_collect_2 : decode cX0_collect 2 = .ok (.iload_n 3, 1) := by decide +kernel
theorem dX0_collect_3 : decode cX0_collect 3 = .ok (.aload_n 0, 1) := by decide +kernel
theorem dX0_collect_4 : decode cX0_collect 4 = .ok (.getfield 18, 3) := by decide +kernel
theorem dX0_collect_7 : decode cX0_collect 7 = .ok (.if_icmp .ge 19, 3) := by decide +kernel
theorem dX0_collect_10 : decode cX0_collect 10 = .ok (.aload_n 0, 1) := by decide +kernel
theorem dX0_collect_11 : decode cX0_collect 11 = .ok (.getfield 9, 3) := by decide +kernel
theorem dX0_collect_14 : decode cX0_collect 14 = .ok (.iload_n 3, 1) := by decide +kernel
theorem dX0_collect_15 : decode cX0_collect 15 = .ok (.iaload, 1) := by decide +kernel
theorem dX0_collect_16 : decode cX0_collect 16 = .ok (.iload_n 1, 1) := by decide +kernel
theorem dX0_collect_17 : decode cX0_collect 17 = .ok (.if_icmp .eq 9, 3) := by decide +kernel
theorem dX0_collect_20 : decode cX0_collect 20 = .ok (.iinc 3 1, 3) := by decide +kernel
theorem dX0_collect_23 : decode cX0_collect 23 = .ok (.goto (-21), 3) := by decide +kernel
theorem dX0_collect_26 : decode cX0_collect 26 = .ok (.iload_n 3, 1) := by decide +kernel
theorem dX0_collect_27 : decode cX0_collect 27 = .ok (.bipush 40, 2) := by decide +kernel
theorem dX0_collect_29 : decode cX0_collect 29 = .ok (.if_icmp .lt 6, 3) := by decide +kernel
theorem dX0_collect_32 : decode cX0_collect 32 = .ok (.bipush (-3), 2) := by decide +kernel
theorem dX0_collect_34 : decode cX0_collect 34 = .ok (.ireturn, 1) := by decide +kernel
theorem dX0_collect_35 : decode cX0_collect 35 = .ok (.iload_n 3, 1) := by decide +kernel
theorem dX0_collect_36 : decode cX0_collect 36 = .ok (.aload_n 0, 1) := by decide +kernel
theorem dX0_collect_37 : decode cX0_collect 37 = .ok (.getfield 18, 3) := by decide +kernel
theorem dX0_collect_40 : decode cX0_collect 40 = .ok (.if_icmp .ne 13, 3) := by decide +kernel
theorem dX0_collect_43 : decode cX0_collect 43 = .ok (.aload_n 0, 1) := by decide +kernel
theorem dX0_collect_44 : decode cX0_collect 44 = .ok (.dup, 1) := by decide +kernel
theorem dX0_collect_45 : decode cX0_collect 45 = .ok (.getfield 18, 3) := by decide +kernel
theorem dX0_collect_48 : decode cX0_collect 48 = .ok (.iconst 1, 1) := by decide +kernel
theorem dX0_collect_49 : decode cX0_collect 49 = .ok (.iadd, 1) := by decide +kernel
theorem dX0_collect_50 : decode cX0_collect 50 = .ok (.putfield 18, 3) := by decide +kernel
theorem dX0_collect_53 : decode cX0_collect 53 = .ok (.aload_n 0, 1) := by decide +kernel
theorem dX0_collect_54 : decode cX0_collect 54 = .ok (.getfield 9, 3) := by decide +kernel
theorem dX0_collect_57 : decode cX0_collect 57 = .ok (.iload_n 3, 1) := by decide +kernel
theorem dX0_collect_58 : decode cX0_collect 58 = .ok (.iload_n 1, 1) := by decide +kernel
theorem dX0_collect_59 : decode cX0_collect 59 = .ok (.iastore, 1) := by decide +kernel
theorem dX0_collect_60 : decode cX0_collect 60 = .ok (.aload_n 0, 1) := by decide +kernel
theorem dX0_collect_61 : decode cX0_collect 61 = .ok (.getfield 15, 3) := by decide +kernel
theorem dX0_collect_64 : decode cX0_collect 64 = .ok (.iload_n 3, 1) := by decide +kernel
theorem dX0_collect_65 : decode cX0_collect 65 = .ok (.iload_n 2, 1) := by decide +kernel
theorem dX0_collect_66 : decode cX0_collect 66 = .ok (.iastore, 1) := by decide +kernel
theorem dX0_collect_67 : decode cX0_collect 67 = .ok (.aload_n 0, 1) := by decide +kernel
theorem dX0_collect_68 : decode cX0_collect 68 = .ok (.getfield 18, 3) := by decide +kernel
theorem dX0_collect_71 : decode cX0_collect 71 = .ok (.ireturn, 1) := by decide +kernel
theorem dX0_makeEdits_0 : decode cX0_makeEdits 0 = .ok (.iconst 0, 1) := by decide +kernel
theorem dX0_makeEdits_1 : decode cX0_makeEdits 1 = .ok (.istore_n 2, 1) := by decide +kernel
theorem dX0_makeEdits_2 : decode cX0_makeEdits 2 = .ok (.iload_n 2, 1) := by decide +kernel
theorem dX0_makeEdits_3 : decode cX0_makeEdits 3 = .ok (.aload_n 0, 1) := by decide +kernel
theorem dX0_makeEdits_4 : decode cX0_makeEdits 4 = .ok (.getfield 18, 3) := by decide +kernel
theorem dX0_makeEdits_7 : decode cX0_makeEdits 7 = .ok (.if_icmp .ge 26, 3) := by decide +kernel
theorem dX0_makeEdits_10 : decode cX0_makeEdits 10 = .ok (.aload_n 1, 1) := by decide +kernel
theorem dX0_makeEdits_11 : decode cX0_makeEdits 11 = .ok (.getfield 26, 3) := by decide +kernel
theorem dX0_makeEdits_14 : decode cX0_makeEdits 14 = .ok (.aload_n 0, 1) := by decide +kernel
theorem dX0_makeEdits_15 : decode cX0_makeEdits 15 = .ok (.getfield 9, 3) := by decide +kernel
theorem dX0_makeEdits_18 : decode cX0_makeEdits 18 = .ok (.iload_n 2, 1) := by decide +kernel
theorem dX0_makeEdits_19 : decode cX0_makeEdits 19 = .ok (.iaload, 1) := by decide +kernel
theorem dX0_makeEdits_20 : decode cX0_makeEdits 20 = .ok (.aload_n 0, 1) := by decide +kernel
theorem dX0_makeEdits_21 : decode cX0_makeEdits 21 = .ok (.getfield 15, 3) := by decide +kernel
theorem dX0_makeEdits_24 : decode cX0_makeEdits 24 = .ok (.iload_n 2, 1) := by decide +kernel
theorem dX0_makeEdits_25 : decode cX0_makeEdits 25 = .ok (.iaload, 1) := by decide +kernel
theorem dX0_makeEdits_26 : decode cX0_makeEdits 26 = .ok (.iastore, 1) := by decide +kernel
theorem dX0_makeEdits_27 : decode cX0_makeEdits 27 = .ok (.iinc 2 1, 3) := by decide +kernel
theorem dX0_makeEdits_30 : decode cX0_makeEdits 30 = .ok (.goto (-28), 3) := by decide +kernel
theorem dX0_makeEdits_33 : decode cX0_makeEdits 33 = .ok (.return_, 1) := by decide +kernel
theorem dX0_leave_0 : decode cX0_leave 0 = .ok (.aload_n 0, 1) := by decide +kernel
theorem dX0_leave_1 : decode cX0_leave 1 = .ok (.iconst 0, 1) := by decide +kernel
theorem dX0_leave_2 : decode cX0_leave 2 = .ok (.putfield 18, 3) := by decide +kernel
theorem dX0_leave_5 : decode cX0_leave 5 = .ok (.aload_n 0, 1) := by decide +kernel
theorem dX0_leave_6 : decode cX0_leave 6 = .ok (.iconst 0, 1) := by decide +kernel
theorem dX0_leave_7 : decode cX0_leave 7 = .ok (.putfield 22, 3) := by decide +kernel
theorem dX0_leave_10 : decode cX0_leave 10 = .ok (.return_, 1) := by decide +kernel
theorem dX1_init_0 : decode cX1_init 0 = .ok (.aload_n 0, 1) := by decide +kernel
theorem dX1_init_1 : decode cX1_init 1 = .ok (.invokespecial 5, 3) := by decide +kernel
theorem dX1_init_4 : decode cX1_init 4 = .ok (.aload_n 0, 1) := by decide +kernel
theorem dX1_init_5 : decode cX1_init 5 = .ok (.bipush 60, 2) := by decide +kernel
theorem dX1_init_7 : decode cX1_init 7 = .ok (.newarray .char, 2) := by decide +kernel
theorem dX1_init_9 : decode cX1_init 9 = .ok (.putfield 11, 3) := by decide +kernel
theorem dX1_init_12 : decode cX1_init 12 = .ok (.aload_n 0, 1) := by decide +kernel
theorem dX1_init_13 : decode cX1_init 13 = .ok (.iconst 0, 1) := by decide +kernel
theorem dX1_init_14 : decode cX1_init 14 = .ok (.putfield 15, 3) := by decide +kernel
theorem dX1_init_17 : decode cX1_init 17 = .ok (.aload_n 0, 1) := by decide +kernel
theorem dX1_init_18 : decode cX1_init 18 = .ok (.iconst 0, 1) := by decide +kernel
theorem dX1_init_19 : decode cX1_init 19 = .ok (.putfield 19, 3) := by decide +kernel
theorem dX1_init_22 : decode cX1_init 22 = .ok (.aload_n 0, 1) := by decide +kernel
theorem dX1_init_23 : decode cX1_init 23 = .ok (.bipush 10, 2) := by decide +kernel
theorem dX1_init_25 : decode cX1_init 25 = .ok (.newarray .char, 2) := by decide +kernel
theorem dX1_init_27 : decode cX1_init 27 = .ok (.putfield 22, 3) := by decide +kernel
theorem dX1_init_30 : decode cX1_init 30 = .ok (.aload_n 0, 1) := by decide +kernel
theorem dX1_init_31 : decode cX1_init 31 = .ok (.bipush 10, 2) := by decide +kernel
theorem dX1_init_33 : decode cX1_init 33 = .ok (.newarray .int, 2) := by decide +kernel
theorem dX1_init_35 : decode cX1_init 35 = .ok (.putfield 25, 3) := by decide +kernel
theorem dX1_init_38 : decode cX1_init 38 = .ok (.aload_n 0, 1) := by decide +kernel
theorem dX1_init_39 : decode cX1_init 39 = .ok (.bipush 10, 2) := by decide +kernel
theorem dX1_init_41 : decode cX1_init 41 = .ok (.bipush 7, 2) := by decide +kernel
theorem dX1_init_43 : decode cX1_init 43 = .ok (.multianewarray 29 2, 4) := by decide +kernel
theorem dX1_init_47 : decode cX1_init 47 = .ok (.putfield 31, 3) := by decide +kernel
theorem dX1_init_50 : decode cX1_init 50 = .ok (.aload_n 0, 1) := by decide +kernel
theorem dX1_init_51 : decode cX1_init 51 = .ok (.iconst 0, 1) := by decide +kernel
theorem dX1_init_52 : decode cX1_init 52 = .ok (.putfield 34, 3) := by decide +kernel
theorem dX1_init_55 : decode cX1_init 55 = .ok (.return_, 1) := by decide +kernel
theorem dX1_add_0 : decode cX1_add 0 = .ok (.iconst 0, 1) := by decide +kernel
theorem dX1_add_1 : decode cX1_add 1 = .ok (.istore_n 2, 1) := by decide +kernel
theorem dX1_add_2 : decode cX1_add 2 = .ok (.bipush 24, 2) := by decide +kernel
theorem dX1_add_4 : decode cX1_add 4 = .ok (.istore_n 3, 1) := by decide +kernel
theorem dX1_add_5 : decode cX1_add 5 = .ok (.iload_n 3, 1) := by decide +kernel
theorem dX1_add_6 : decode cX1_add 6 = .ok (.ifCond .lt 53, 3) := by decide +kernel
theorem dX1_add_9 : decode cX1_add 9 = .ok (.iload_n 1, 1) := by decide +kernel
theorem dX1_add_10 : decode cX1_add 10 = .ok (.iload_n 3, 1) := by decide +kernel
theorem dX1_add_11 : decode cX1_add 11 = .ok (.iushr, 1) := by decide +kernel
theorem dX1_add_12 : decode cX1_add 12 = .ok (.sipush 255, 3) := by decide +kernel
theorem dX1_add_15 : decode cX1_add 15 = .ok (.iand, 1) := by decide +kernel
theorem dX1_add_16 : decode cX1_add 16 = .ok (.istore 4, 2) := by decide +kernel
theorem dX1_add_18 : decode cX1_add 18 = .ok (.iload 4, 2) := by decide +kernel
theorem dX1_add_20 : decode cX1_add 20 = .ok (.ifCond .eq 20, 3) := by decide +kernel
theorem dX1_add_23 : decode cX1_add 23 = .ok (.iload 4, 2) := by decide +kernel
theorem dX1_add_25 : decode cX1_add 25 = .ok (.bipush 33, 2) := by decide +kernel
theorem dX1_add_27 : decode cX1_add 27 = .ok (.if_icmp .lt 10, 3) := by decide +kernel
theorem dX1_add_30 : decode cX1_add 30 = .ok (.iload 4, 2) := by decide +kernel
theorem dX1_add_32 : decode cX1_add 32 = .ok (.bipush 126, 2) := by decide +kernel
theorem dX1_add_34 : decode cX1_add 34 = .ok (.if_icmp .le 6, 3) := by decide +kernel
theorem dX1_add_37 : decode cX1_add 37 = .ok (.bipush (-2), 2) := by decide +kernel
theorem dX1_add_39 : decode cX1_add 39 = .ok (.ireturn, 1) := by decide +kernel
theorem dX1_add_40 : decode cX1_add 40 = .ok (.iload_n 2, 1) := by decide +kernel
theorem dX1_add_41 : decode cX1_add 41 = .ok (.iload 4, 2) := by decide +kernel
theorem dX1_add_43 : decode cX1_add 43 = .ok (.ifCond .eq 7, 3) := by decide +kernel
theorem dX1_add_46 : decode cX1_add 46 = .ok (.iconst 1, 1) := by decide +kernel
theorem dX1_add_47 : decode cX1_add 47 = .ok (.goto 4, 3) := by decide +kernel
theorem dX1_add_50 : decode cX1_add 50 = .ok (.iconst 0, 1) := by decide +kernel
theorem dX1_add_51 : decode cX1_add 51 = .ok (.iadd, 1) := by decide +kernel
theorem dX1_add_52 : decode cX1_add 52 = .ok (.istore_n 2, 1) := by decide +kernel
theorem dX1_add_53 : decode cX1_add 53 = .ok (.iinc 3 (-8), 3) := by decide +kernel
theorem dX1_add_56 : decode cX1_add 56 = .ok (.goto (-51), 3) := by decide +kernel
theorem dX1_add_59 : decode cX1_add 59 = .ok (.aload_n 0, 1) := by decide +kernel
theorem dX1_add_60 : decode cX1_add 60 = .ok (.getfield 15, 3) := by decide +kernel
theorem dX1_add_63 : decode cX1_add 63 = .ok (.iload_n 2, 1) := by decide +kernel
theorem dX1_add_64 : decode cX1_add 64 = .ok (.iadd, 1) := by decide +kernel
theorem dX1_add_65 : decode cX1_add 65 = .ok (.bipush 60, 2) := by decide +kernel
theorem dX1_add_67 : decode cX1_add 67 = .ok (.if_icmp .le 6, 3) := by decide +kernel
theorem dX1_add_70 : decode cX1_add 70 = .ok (.bipush (-3), 2) := by decide +kernel
theorem dX1_add_72 : decode cX1_add 72 = .ok (.ireturn, 1) := by decide +kernel
theorem dX1_add_73 : decode cX1_add 73 = .ok (.bipush 24, 2) := by decide +kernel
theorem dX1_add_75 : decode cX1_add 75 = .ok (.istore_n 3, 1) := by decide +kernel
theorem dX1_add_76 : decode cX1_add 76 = .ok (.iload_n 3, 1) := by decide +kernel
theorem dX1_add_77 : decode cX1_add 77 = .ok (.ifCond .lt 54, 3) := by decide +kernel
theorem dX1_add_80 : decode cX1_add 80 = .ok (.iload_n 1, 1) := by decide +kernel
theorem dX1_add_81 : decode cX1_add 81 = .ok (.iload_n 3, 1) := by decide +kernel
theorem dX1_add_82 : decode cX1_add 82 = .ok (.iushr, 1) := by decide +kernel
theorem dX1_add_83 : decode cX1_add 83 = .ok (.sipush 255, 3) := by decide +kernel
theorem dX1_add_86 : decode cX1_add 86 = .ok (.iand, 1) := by decide +kernel
theorem dX1_add_87 : decode cX1_add 87 = .ok (.istore 4, 2) := by decide +kernel
theorem dX1_add_89 : decode cX1_add 89 = .ok (.iload 4, 2) := by decide +kernel
theorem dX1_add_91 : decode cX1_add 91 = .ok (.ifCond .eq 34, 3) := by decide +kernel
theorem dX1_add_94 : decode cX1_add 94 = .ok (.aload_n 0, 1) := by decide +kernel
theorem dX1_add_95 : decode cX1_add 95 = .ok (.getfield 15, 3) := by decide +kernel
theorem dX1_add_98 : decode cX1_add 98 = .ok (.bipush 60, 2) := by decide +kernel
theorem dX1_add_100 : decode cX1_add 100 = .ok (.if_icmp .ge 25, 3) := by decide +kernel
theorem dX1_add_103 : decode cX1_add 103 = .ok (.aload_n 0, 1) := by decide +kernel
theorem dX1_add_104 : decode cX1_add 104 = .ok (.getfield 11, 3) := by decide +kernel
theorem dX1_add_107 : decode cX1_add 107 = .ok (.aload_n 0, 1) := by decide +kernel
theorem dX1_add_108 : decode cX1_add 108 = .ok (.getfield 15, 3) := by decide +kernel
theorem dX1_add_111 : decode cX1_add 111 = .ok (.iload 4, 2) := by decide +kernel
theorem dX1_add_113 : decode cX1_add 113 = .ok (.i2c, 1) := by decide +kernel
theorem dX1_add_114 : decode cX1_add 114 = .ok (.castore, 1) := by decide +kernel
theorem dX1_add_115 : decode cX1_add 115 = .ok (.aload_n 0, 1) := by decide +kernel
theorem dX1_add_116 : decode cX1_add 116 = .ok (.dup, 1) := by decide +kernel
theorem dX1_add_117 : decode cX1_add 117 = .ok (.getfield 15, 3) := by decide +kernel
theorem dX1_add_120 : decode cX1_add 120 = .ok (.iconst 1, 1) := by decide +kernel
theorem dX1_add_121 : decode cX1_add 121 = .ok (.iadd, 1) := by decide +kernel
theorem dX1_add_122 : decode cX1_add 122 = .ok (.putfield 15, 3) := by decide +kernel
theorem dX1_add_125 : decode cX1_add 125 = .ok (.iinc 3 (-8), 3) := by decide +kernel
theorem dX1_add_128 : decode cX1_add 128 = .ok (.goto (-52), 3) := by decide +kernel
theorem dX1_add_131 : decode cX1_add 131 = .ok (.aload_n 0, 1) := by decide +kernel
theorem dX1_add_132 : decode cX1_add 132 = .ok (.getfield 15, 3) := by decide +kernel
theorem dX1_add_135 : decode cX1_add 135 = .ok (.ireturn, 1) := by decide +kernel
theorem dX1_parse_0 : decode cX1_parse 0 = .ok (.aload_n 0, 1) := by decide +kernel
theorem dX1_parse_1 : decode cX1_parse 1 = .ok (.iconst 0, 1) := by decide +kernel
theorem dX1_parse_2 : decode cX1_parse 2 = .ok (.putfield 34, 3) := by decide +kernel
theorem dX1_parse_5 : decode cX1_parse 5 = .ok (.aload_n 0, 1) := by decide +kernel
theorem dX1_parse_6 : decode cX1_parse 6 = .ok (.iconst 0, 1) := by decide +kernel
theorem dX1_parse_7 : decode cX1_parse 7 = .ok (.putfield 19, 3) := by decide +kernel
theorem dX1_parse_10 : decode cX1_parse 10 = .ok (.iconst 0, 1) := by decide +kernel
theorem dX1_parse_11 : decode cX1_parse 11 = .ok (.istore_n 1, 1) := by decide +kernel
theorem dX1_parse_12 : decode cX1_parse 12 = .ok (.iload_n 1, 1) := by decide +kernel
theorem dX1_parse_13 : decode cX1_parse 13 = .ok (.bipush 10, 2) := by decide +kernel
theorem dX1_parse_15 : decode cX1_parse 15 = .ok (.if_icmp .ge 60, 3) := by decide +kernel
theorem dX1_parse_18 : decode cX1_parse 18 = .ok (.aload_n 0, 1) := by decide +kernel
theorem dX1_parse_19 : decode cX1_parse 19 = .ok (.iload_n 1, 1) := by decide +kernel
theorem dX1_parse_20 : decode cX1_parse 20 = .ok (.invokevirtual 37, 3) := by decide +kernel
theorem dX1_parse_23 : decode cX1_parse 23 = .ok (.ifCond .ne 8, 3) := by decide +kernel
theorem dX1_parse_26 : decode cX1_parse 26 = .ok (.aload_n 0, 1) := by decide +kernel
theorem dX1_parse_27 : decode cX1_parse 27 = .ok (.getfield 19, 3) := by decide +kernel
theorem dX1_parse_30 : decode cX1_parse 30 = .ok (.ireturn, 1) := by decide +kernel
theorem dX1_parse_31 : decode cX1_parse 31 = .ok (.aload_n 0, 1) := by decide +kernel
theorem dX1_parse_32 : decode cX1_parse 32 = .ok (.dup, 1) := by decide +kernel
theorem dX1_parse_33 : decode cX1_parse 33 = .ok (.getfield 34, 3) := by decide +kernel
theorem dX1_parse_36 : decode cX1_parse 36 = .ok (.iconst 1, 1) := by decide +kernel
theorem dX1_parse_37 : decode cX1_parse 37 = .ok (.iadd, 1) := by decide +kernel
theorem dX1_parse_38 : decode cX1_parse 38 = .ok (.putfield 34, 3) := by decide +kernel
theorem dX1_parse_41 : decode cX1_parse 41 = .ok (.aload_n 0, 1) := by decide +kernel
theorem dX1_parse_42 : decode cX1_parse 42 = .ok (.getfield 19, 3) := by decide +kernel
theorem dX1_parse_45 : decode cX1_parse 45 = .ok (.aload_n 0, 1) := by decide +kernel
theorem dX1_parse_46 : decode cX1_parse 46 = .ok (.getfield 15, 3) := by decide +kernel
theorem dX1_parse_49 : decode cX1_parse 49 = .ok (.if_icmp .lt 6, 3) := by decide +kernel
theorem dX1_parse_52 : decode cX1_parse 52 = .ok (.bipush (-4), 2) := by decide +kernel
theorem dX1_parse_54 : decode cX1_parse 54 = .ok (.ireturn, 1) := by decide +kernel
theorem dX1_parse_55 : decode cX1_parse 55 = .ok (.aload_n 0, 1) := by decide +kernel
theorem dX1_parse_56 : decode cX1_parse 56 = .ok (.bipush 59, 2) := by decide +kernel
theorem dX1_parse_58 : decode cX1_parse 58 = .ok (.invokevirtual 41, 3) := by decide +kernel
theorem dX1_parse_61 : decode cX1_parse 61 = .ok (.ifCond .ne 8, 3) := by decide +kernel
theorem dX1_parse_64 : decode cX1_parse 64 = .ok (.aload_n 0, 1) := by decide +kernel
theorem dX1_parse_65 : decode cX1_parse 65 = .ok (.getfield 19, 3) := by decide +kernel
theorem dX1_parse_68 : decode cX1_parse 68 = .ok (.ireturn, 1) := by decide +kernel
theorem dX1_parse_69 : decode cX1_parse 69 = .ok (.iinc 1 1, 3) := by decide +kernel
theorem dX1_parse_72 : decode cX1_parse 72 = .ok (.goto (-60), 3) := by decide +kernel
theorem dX1_parse_75 : decode cX1_parse 75 = .ok (.aload_n 0, 1) := by decide +kernel
theorem dX1_parse_76 : decode cX1_parse 76 = .ok (.getfield 19, 3) := by decide +kernel
theorem dX1_parse_79 : decode cX1_parse 79 = .ok (.ireturn, 1) := by decide +kernel
theorem dX1_parseCommand_0 : decode cX1_parseCommand 0 = .ok (.aload_n 0, 1) := by decide +kernel
theorem dX1_parseCommand_1 : decode cX1_parseCommand 1 = .ok (.getfield 19, 3) := by decide +kernel
theorem dX1_parseCommand_4 : decode cX1_parseCommand 4 = .ok (.aload_n 0, 1) := by decide +kernel
theorem dX1_parseCommand_5 : decode cX1_parseCommand 5 = .ok (.getfield 15, 3) := by decide +kernel
theorem dX1_parseCommand_8 : decode cX1_parseCommand 8 = .ok (.if_icmp .ge 15, 3) := by decide +kernel
theorem dX1_parseCommand_11 : decode cX1_parseCommand 11 = .ok (.aload_n 0, 1) := by decide +kernel
theorem dX1_parseCommand_12 : decode cX1_parseCommand 12 = .ok (.getfield 11, 3) := by decide +kernel
theorem dX1_parseCommand_15 : decode cX1_parseCommand 15 = .ok (.aload_n 0, 1) := by decide +kernel
theorem dX1_parseCommand_16 : decode cX1_parseCommand 16 = .ok (.getfield 19, 3) := by decide +kernel
theorem dX1_parseCommand_19 : decode cX1_parseCommand 19 = .ok (.caload, 1) := by decide +kernel
theorem dX1_parseCommand_20 : decode cX1_parseCommand 20 = .ok (.goto 5, 3) := by decide +kernel
theorem dX1_parseCommand_23 : decode cX1_parseCommand 23 = .ok (.bipush 32, 2) := by decide +kernel
theorem dX1_parseCommand_25 : decode cX1_parseCommand 25 = .ok (.istore_n 2, 1) := by decide +kernel
theorem dX1_parseCommand_26 : decode cX1_parseCommand 26 = .ok (.iload_n 2, 1) := by decide +kernel
theorem dX1_parseCommand_27 : decode cX1_parseCommand 27 = .ok (.invokestatic 45, 3) := by decide +kernel
theorem dX1_parseCommand_30 : decode cX1_parseCommand 30 = .ok (.istore_n 3, 1) := by decide +kernel
theorem dX1_parseCommand_31 : decode cX1_parseCommand 31 = .ok (.iload_n 3, 1) := by decide +kernel
theorem dX1_parseCommand_32 : decode cX1_parseCommand 32 = .ok (.ifCond .ne 5, 3) := by decide +kernel
theorem dX1_parseCommand_35 : decode cX1_parseCommand 35 = .ok (.iconst 0, 1) := by decide +kernel
theorem dX1_parseCommand_36 : decode cX1_parseCommand 36 = .ok (.ireturn, 1) := by decide +kernel
theorem dX1_parseCommand_37 : decode cX1_parseCommand 37 = .ok (.aload_n 0, 1) := by decide +kernel
theorem dX1_parseCommand_38 : decode cX1_parseCommand 38 = .ok (.getfield 22, 3) := by decide +kernel
theorem dX1_parseCommand_41 : decode cX1_parseCommand 41 = .ok (.iload_n 1, 1) := by decide +kernel
theorem dX1_parseCommand_42 : decode cX1_parseCommand 42 = .ok (.iload_n 2, 1) := by decide +kernel
theorem dX1_parseCommand_43 : decode cX1_parseCommand 43 = .ok (.castore, 1) := by decide +kernel
theorem dX1_parseCommand_44 : decode cX1_parseCommand 44 = .ok (.aload_n 0, 1) := by decide +kernel
theorem dX1_parseCommand_45 : decode cX1_parseCommand 45 = .ok (.getfield 25, 3) := by decide +kernel
theorem dX1_parseCommand_48 : decode cX1_parseCommand 48 = .ok (.iload_n 1, 1) := by decide +kernel
theorem dX1_parseCommand_49 : decode cX1_parseCommand 49 = .ok (.aload_n 0, 1) := by decide +kernel
theorem dX1_parseCommand_50 : decode cX1_parseCommand 50 = .ok (.getfield 19, 3) := by decide +kernel
theorem dX1_parseCommand_53 : decode cX1_parseCommand 53 = .ok (.iastore, 1) := by decide +kernel
theorem dX1_parseCommand_54 : decode cX1_parseCommand 54 = .ok (.aload_n 0, 1) := by decide +kernel
theorem dX1_parseCommand_55 : decode cX1_parseCommand 55 = .ok (.dup, 1) := by decide +kernel
theorem dX1_parseCommand_56 : decode cX1_parseCommand 56 = .ok (.getfield 19, 3) := by decide +kernel
theorem dX1_parseCommand_59 : decode cX1_parseCommand 59 = .ok (.iconst 1, 1) := by decide +kernel
theorem dX1_parseCommand_60 : decode cX1_parseCommand 60 = .ok (.iadd, 1) := by decide +kernel
theorem dX1_parseCommand_61 : decode cX1_parseCommand 61 = .ok (.putfield 19, 3) := by decide +kernel
theorem dX1_parseCommand_64 : decode cX1_parseCommand 64 = .ok (.iconst 0, 1) := by decide +kernel
theorem dX1_parseCommand_65 : decode cX1_parseCommand 65 = .ok (.istore 4, 2) := by decide +kernel
theorem dX1_parseCommand_67 : decode cX1_parseCommand 67 = .ok (.iload 4, 2) := by decide +kernel
theorem dX1_parseCommand_69 : decode cX1_parseCommand 69 = .ok (.iload_n 3, 1) := by decide +kernel
theorem dX1_parseCommand_70 : decode cX1_parseCommand 70 = .ok (.if_icmp .ge 52, 3) := by decide +kernel
theorem dX1_parseCommand_73 : decode cX1_parseCommand 73 = .ok (.iload 4, 2) := by decide +kernel
theorem dX1_parseCommand_75 : decode cX1_parseCommand 75 = .ok (.ifCond .le 29, 3) := by decide +kernel
theorem dX1_parseCommand_78 : decode cX1_parseCommand 78 = .ok (.aload_n 0, 1) := by decide +kernel
theorem dX1_parseCommand_79 : decode cX1_parseCommand 79 = .ok (.iload 4, 2) := by decide +kernel
theorem dX1_parseCommand_81 : decode cX1_parseCommand 81 = .ok (.iload_n 3, 1) := by decide +kernel
theorem dX1_parseCommand_82 : decode cX1_parseCommand 82 = .ok (.iconst 1, 1) := by decide +kernel
theorem dX1_parseCommand_83 : decode cX1_parseCommand 83 = .ok (.isub, 1) := by decide +kernel
theorem dX1_parseCommand_84 : decode cX1_parseCommand 84 = .ok (.if_icmp .ne 10, 3) := by decide +kernel
theorem dX1_parseCommand_87 : decode cX1_parseCommand 87 = .ok (.iload_n 2, 1) := by decide +kernel
theorem dX1_parseCommand_88 : decode cX1_parseCommand 88 = .ok (.invokestatic 49, 3) := by decide +kernel
theorem dX1_parseCommand_91 : decode cX1_parseCommand 91 = .ok (.goto 5, 3) := by decide +kernel
theorem dX1_parseCommand_94 : decode cX1_parseCommand 94 = .ok (.bipush 44, 2) := by decide +kernel
theorem dX1_parseCommand_96 : decode cX1_parseCommand 96 = .ok (.invokevirtual 41, 3) := by decide +kernel
theorem dX1_parseCommand_99 : decode cX1_parseCommand 99 = .ok (.ifCond .ne 5, 3) := by decide +kernel
theorem dX1_parseCommand_102 : decode cX1_parseCommand 102 = .ok (.iconst 0, 1) := by decide +kernel
theorem dX1_parseCommand_103 : decode cX1_parseCommand 103 = .ok (.ireturn, 1) := by decide +kernel
theorem dX1_parseCommand_104 : decode cX1_parseCommand 104 = .ok (.aload_n 0, 1) := by decide +kernel
theorem dX1_parseCommand_105 : decode cX1_parseCommand 105 = .ok (.iload_n 1, 1) := by decide +kernel
theorem dX1_parseCommand_106 : decode cX1_parseCommand 106 = .ok (.iload 4, 2) := by decide +kernel
theorem dX1_parseCommand_108 : decode cX1_parseCommand 108 = .ok (.invokevirtual 53, 3) := by decide +kernel
theorem dX1_parseCommand_111 : decode cX1_parseCommand 111 = .ok (.ifCond .ne 5, 3) := by decide +kernel
theorem dX1_parseCommand_114 : decode cX1_parseCommand 114 = .ok (.iconst 0, 1) := by decide +kernel
theorem dX1_parseCommand_115 : decode cX1_parseCommand 115 = .ok (.ireturn, 1) := by decide +kernel
theorem dX1_parseCommand_116 : decode cX1_parseCommand 116 = .ok (.iinc 4 1, 3) := by decide +kernel
theorem dX1_parseCommand_119 : decode cX1_parseCommand 119 = .ok (.goto (-52), 3) := by decide +kernel
theorem dX1_parseCommand_122 : decode cX1_parseCommand 122 = .ok (.iconst 1, 1) := by decide +kernel
theorem dX1_parseCommand_123 : decode cX1_parseCommand 123 = .ok (.ireturn, 1) := by decide +kernel
theorem dX1_parseNumber_0 : decode cX1_parseNumber 0 = .ok (.aload_n 0, 1) := by decide +kernel
theorem dX1_parseNumber_1 : decode cX1_parseNumber 1 = .ok (.invokevirtual 57, 3) := by decide +kernel
theorem dX1_parseNumber_4 : decode cX1_parseNumber 4 = .ok (.ifCond .ne 5, 3) := by decide +kernel
theorem dX1_parseNumber_7 : decode cX1_parseNumber 7 = .ok (.iconst 0, 1) := by decide +kernel
theorem dX1_parseNumber_8 : decode cX1_parseNumber 8 = .ok (.ireturn, 1) := by decide +kernel
theorem dX1_parseNumber_9 : decode cX1_parseNumber 9 = .ok (.aload_n 0, 1) := by decide +kernel
theorem dX1_parseNumber_10 : decode cX1_parseNumber 10 = .ok (.getfield 11, 3) := by decide +kernel
theorem dX1_parseNumber_13 : decode cX1_parseNumber 13 = .ok (.aload_n 0, 1) := by decide +kernel
theorem dX1_parseNumber_14 : decode cX1_parseNumber 14 = .ok (.getfield 19, 3) := by decide +kernel
theorem dX1_parseNumber_17 : decode cX1_parseNumber 17 = .ok (.caload, 1) := by decide +kernel
theorem dX1_parseNumber_18 : decode cX1_parseNumber 18 = .ok (.bipush 48, 2) := by decide +kernel
theorem dX1_parseNumber_20 : decode cX1_parseNumber 20 = .ok (.isub, 1) := by decide +kernel
theorem dX1_parseNumber_21 : decode cX1_parseNumber 21 = .ok (.istore_n 3, 1) := by decide +kernel
theorem dX1_parseNumber_22 : decode cX1_parseNumber 22 = .ok (.aload_n 0, 1) := by decide +kernel
theorem dX1_parseNumber_23 : decode cX1_parseNumber 23 = .ok (.dup, 1) := by decide +kernel
theorem dX1_parseNumber_24 : decode cX1_parseNumber 24 = .ok (.getfield 19, 3) := by decide +kernel
theorem dX1_parseNumber_27 : decode cX1_parseNumber 27 = .ok (.iconst 1, 1) := by decide +kernel
theorem dX1_parseNumber_28 : decode cX1_parseNumber 28 = .ok (.iadd, 1) := by decide +kernel
theorem dX1_parseNumber_29 : decode cX1_parseNumber 29 = .ok (.putfield 19, 3) := by decide +kernel
theorem dX1_parseNumber_32 : decode cX1_parseNumber 32 = .ok (.aload_n 0, 1) := by decide +kernel
theorem dX1_parseNumber_33 : decode cX1_parseNumber 33 = .ok (.invokevirtual 57, 3) := by decide +kernel
theorem dX1_parseNumber_36 : decode cX1_parseNumber 36 = .ok (.ifCond .eq 31, 3) := by decide +kernel
theorem dX1_parseNumber_39 : decode cX1_parseNumber 39 = .ok (.bipush 10, 2) := by decide +kernel
theorem dX1_parseNumber_41 : decode cX1_parseNumber 41 = .ok (.iload_n 3, 1) := by decide +kernel
theorem dX1_parseNumber_42 : decode cX1_parseNumber 42 = .ok (.imul, 1) := by decide +kernel
theorem dX1_parseNumber_43 : decode cX1_parseNumber 43 = .ok (.aload_n 0, 1) := by decide +kernel
theorem dX1_parseNumber_44 : decode cX1_parseNumber 44 = .ok (.getfield 11, 3) := by decide +kernel
theorem dX1_parseNumber_47 : decode cX1_parseNumber 47 = .ok (.aload_n 0, 1) := by decide +kernel
theorem dX1_parseNumber_48 : decode cX1_parseNumber 48 = .ok (.getfield 19, 3) := by decide +kernel
theorem dX1_parseNumber_51 : decode cX1_parseNumber 51 = .ok (.caload, 1) := by decide +kernel
theorem dX1_parseNumber_52 : decode cX1_parseNumber 52 = .ok (.iadd, 1) := by decide +kernel
theorem dX1_parseNumber_53 : decode cX1_parseNumber 53 = .ok (.bipush 48, 2) := by decide +kernel
theorem dX1_parseNumber_55 : decode cX1_parseNumber 55 = .ok (.isub, 1) := by decide +kernel
theorem dX1_parseNumber_56 : decode cX1_parseNumber 56 = .ok (.istore_n 3, 1) := by decide +kernel
theorem dX1_parseNumber_57 : decode cX1_parseNumber 57 = .ok (.aload_n 0, 1) := by decide +kernel
theorem dX1_parseNumber_58 : decode cX1_parseNumber 58 = .ok (.dup, 1) := by decide +kernel
theorem dX1_parseNumber_59 : decode cX1_parseNumber 59 = .ok (.getfield 19, 3) := by decide +kernel
theorem dX1_parseNumber_62 : decode cX1_parseNumber 62 = .ok (.iconst 1, 1) := by decide +kernel
theorem dX1_parseNumber_63 : decode cX1_parseNumber 63 = .ok (.iadd, 1) := by decide +kernel
theorem dX1_parseNumber_64 : decode cX1_parseNumber 64 = .ok (.putfield 19, 3) := by decide +kernel
theorem dX1_parseNumber_67 : decode cX1_parseNumber 67 = .ok (.aload_n 0, 1) := by decide +kernel
theorem dX1_parseNumber_68 : decode cX1_parseNumber 68 = .ok (.getfield 31, 3) := by decide +kernel
theorem dX1_parseNumber_71 : decode cX1_parseNumber 71 = .ok (.iload_n 1, 1) := by decide +kernel
theorem dX1_parseNumber_72 : decode cX1_parseNumber 72 = .ok (.aaload, 1) := by decide +kernel
theorem dX1_parseNumber_73 : decode cX1_parseNumber 73 = .ok (.iload_n 2, 1) := by decide +kernel
theorem dX1_parseNumber_74 : decode cX1_parseNumber 74 = .ok (.iload_n 3, 1) := by decide +kernel
theorem dX1_parseNumber_75 : decode cX1_parseNumber 75 = .ok (.iastore, 1) := by decide +kernel
theorem dX1_parseNumber_76 : decode cX1_parseNumber 76 = .ok (.iconst 1, 1) := by decide +kernel
theorem dX1_parseNumber_77 : decode cX1_parseNumber 77 = .ok (.ireturn, 1) := by decide +kernel
theorem dX1_isDigitNext_0 : decode cX1_isDigitNext 0 = .ok (.aload_n 0, 1) := by decide +kernel
theorem dX1_isDigitNext_1 : decode cX1_isDigitNext 1 = .ok (.getfield 19, 3) := by decide +kernel
theorem dX1_isDigitNext_4 : decode cX1_isDigitNext 4 = .ok (.aload_n 0, 1) := by decide +kernel
theorem dX1_isDigitNext_5 : decode cX1_isDigitNext 5 = .ok (.getfield 15, 3) := by decide +kernel
theorem dX1_isDigitNext_8 : decode cX1_isDigitNext 8 = .ok (.if_icmp .ge 35, 3) := by decide +kernel
theorem dX1_isDigitNext_11 : decode cX1_isDigitNext 11 = .ok (.aload_n 0, 1) := by decide +kernel
theorem dX1_isDigitNext_12 : decode cX1_isDigitNext 12 = .ok (.getfield 11, 3) := by decide +kernel
theorem dX1_isDigitNext_15 : decode cX1_isDigitNext 15 = .ok (.aload_n 0, 1) := by decide +kernel
theorem dX1_isDigitNext_16 : decode cX1_isDigitNext 16 = .ok (.getfield 19, 3) := by decide +kernel
theorem dX1_isDigitNext_19 : decode cX1_isDigitNext 19 = .ok (.caload, 1) := by decide +kernel
theorem dX1_isDigitNext_20 : decode cX1_isDigitNext 20 = .ok (.bipush 48, 2) := by decide +kernel
theorem dX1_isDigitNext_22 : decode cX1_isDigitNext 22 = .ok (.if_icmp .lt 21, 3) := by decide +kernel
theorem dX1_isDigitNext_25 : decode cX1_isDigitNext 25 = .ok (.aload_n 0, 1) := by decide +kernel
theorem dX1_isDigitNext_26 : decode cX1_isDigitNext 26 = .ok (.getfield 11, 3) := by decide +kernel
theorem dX1_isDigitNext_29 : decode cX1_isDigitNext 29 = .ok (.aload_n 0, 1) := by decide +kernel
theorem dX1_isDigitNext_30 : decode cX1_isDigitNext 30 = .ok (.getfield 19, 3) := by decide +kernel
theorem dX1_isDigitNext_33 : decode cX1_isDigitNext 33 = .ok (.caload, 1) := by decide +kernel
theorem dX1_isDigitNext_34 : decode cX1_isDigitNext 34 = .ok (.bipush 57, 2) := by decide +kernel
theorem dX1_isDigitNext_36 : decode cX1_isDigitNext 36 = .ok (.if_icmp .gt 7, 3) := by decide +kernel
theorem dX1_isDigitNext_39 : decode cX1_isDigitNext 39 = .ok (.iconst 1, 1) := by decide +kernel
theorem dX1_isDigitNext_40 : decode cX1_isDigitNext 40 = .ok (.goto 4, 3) := by decide +kernel
theorem dX1_isDigitNext_43 : decode cX1_isDigitNext 43 = .ok (.iconst 0, 1) := by decide +kernel
theorem dX1_isDigitNext_44 : decode cX1_isDigitNext 44 = .ok (.ireturn, 1) := by decide +kernel
theorem dX1_skip_0 : decode cX1_skip 0 = .ok (.aload_n 0, 1) := by decide +kernel
theorem dX1_skip_1 : decode cX1_skip 1 = .ok (.getfield 19, 3) := by decide +kernel
theorem dX1_skip_4 : decode cX1_skip 4 = .ok (.aload_n 0, 1) := by decide +kernel
theorem dX1_skip_5 : decode cX1_skip 5 = .ok (.getfield 15, 3) := by decide +kernel
theorem dX1_skip_8 : decode cX1_skip 8 = .ok (.if_icmp .ge 16, 3) := by decide +kernel
theorem dX1_skip_11 : decode cX1_skip 11 = .ok (.aload_n 0, 1) := by decide +kernel
theorem dX1_skip_12 : decode cX1_skip 12 = .ok (.getfield 11, 3) := by decide +kernel
theorem dX1_skip_15 : decode cX1_skip 15 = .ok (.aload_n 0, 1) := by decide +kernel
theorem dX1_skip_16 : decode cX1_skip 16 = .ok (.getfield 19, 3) := by decide +kernel
theorem dX1_skip_19 : decode cX1_skip 19 = .ok (.caload, 1) := by decide +kernel
theorem dX1_skip_20 : decode cX1_skip 20 = .ok (.iload_n 1, 1) := by decide +kernel
theorem dX1_skip_21 : decode cX1_skip 21 = .ok (.if_icmp .eq 5, 3) := by decide +kernel
theorem dX1_skip_24 : decode cX1_skip 24 = .ok (.iconst 0, 1) := by decide +kernel
theorem dX1_skip_25 : decode cX1_skip 25 = .ok (.ireturn, 1) := by decide +kernel
theorem dX1_skip_26 : decode cX1_skip 26 = .ok (.aload_n 0, 1) := by decide +kernel
theorem dX1_skip_27 : decode cX1_skip 27 = .ok (.dup, 1) := by decide +kernel
theorem dX1_skip_28 : decode cX1_skip 28 = .ok (.getfield 19, 3) := by decide +kernel
theorem dX1_skip_31 : decode cX1_skip 31 = .ok (.iconst 1, 1) := by decide +kernel
theorem dX1_skip_32 : decode cX1_skip 32 = .ok (.iadd, 1) := by decide +kernel
theorem dX1_skip_33 : decode cX1_skip 33 = .ok (.putfield 19, 3) := by decide +kernel
theorem dX1_skip_36 : decode cX1_skip 36 = .ok (.iconst 1, 1) := by decide +kernel
theorem dX1_skip_37 : decode cX1_skip 37 = .ok (.ireturn, 1) := by decide +kernel
theorem dX1_countOfNumbers_0 : decode cX1_countOfNumbers 0 = .ok (.iload_n 0, 1) := by decide +kernel
theorem dX1_countOfNumbers_1 : decode cX1_countOfNumbers 1 = .ok (.lookupswitch 50 #[(101, 48), (102, 45), (108, 48), (115, 43)], 43) := by decide +kernel
theorem dX1_countOfNumbers_44 : decode cX1_countOfNumbers 44 = .ok (.iconst 4, 1) := by decide +kernel
theorem dX1_countOfNumbers_45 : decode cX1_countOfNumbers 45 = .ok (.ireturn, 1) := by decide +kernel
theorem dX1_countOfNumbers_46 : decode cX1_countOfNumbers 46 = .ok (.bipush 7, 2) := by decide +kernel
theorem dX1_countOfNumbers_48 : decode cX1_countOfNumbers 48 = .ok (.ireturn, 1) := by decide +kernel
theorem dX1_countOfNumbers_49 : decode cX1_countOfNumbers 49 = .ok (.iconst 3, 1) := by decide +kernel
theorem dX1_countOfNumbers_50 : decode cX1_countOfNumbers 50 = .ok (.ireturn, 1) := by decide +kernel
theorem dX1_countOfNumbers_51 : decode cX1_countOfNumbers 51 = .ok (.iconst 0, 1) := by decide +kernel
theorem dX1_countOfNumbers_52 : decode cX1_countOfNumbers 52 = .ok (.ireturn, 1) := by decide +kernel
theorem dX1_lastSeparator_0 : decode cX1_lastSeparator 0 = .ok (.iload_n 0, 1) := by decide +kernel
theorem dX1_lastSeparator_1 : decode cX1_lastSeparator 1 = .ok (.bipush 115, 2) := by decide +kernel
theorem dX1_lastSeparator_3 : decode cX1_lastSeparator 3 = .ok (.if_icmp .eq 9, 3) := by decide +kernel
theorem dX1_lastSeparator_6 : decode cX1_lastSeparator 6 = .ok (.iload_n 0, 1) := by decide +kernel
theorem dX1_lastSeparator_7 : decode cX1_lastSeparator 7 = .ok (.bipush 102, 2) := by decide +kernel
theorem dX1_lastSeparator_9 : decode cX1_lastSeparator 9 = .ok (.if_icmp .ne 8, 3) := by decide +kernel
theorem dX1_lastSeparator_12 : decode cX1_lastSeparator 12 = .ok (.bipush 61, 2) := by decide +kernel
theorem dX1_lastSeparator_14 : decode cX1_lastSeparator 14 = .ok (.goto 5, 3) := by decide +kernel
theorem dX1_lastSeparator_17 : decode cX1_lastSeparator 17 = .ok (.bipush 44, 2) := by decide +kernel
theorem dX1_lastSeparator_19 : decode cX1_lastSeparator 19 = .ok (.ireturn, 1) := by decide +kernel
theorem dX1_firstRefused_0 : decode cX1_firstRefused 0 = .ok (.iconst 0, 1) := by decide +kernel
theorem dX1_firstRefused_1 : decode cX1_firstRefused 1 = .ok (.istore_n 1, 1) := by decide +kernel
theorem dX1_firstRefused_2 : decode cX1_firstRefused 2 = .ok (.iload_n 1, 1) := by decide +kernel
theorem dX1_firstRefused_3 : decode cX1_firstRefused 3 = .ok (.aload_n 0, 1) := by decide +kernel
theorem dX1_firstRefused_4 : decode cX1_firstRefused 4 = .ok (.getfield 34, 3) := by decide +kernel
theorem dX1_firstRefused_7 : decode cX1_firstRefused 7 = .ok (.if_icmp .ge 34, 3) := by decide +kernel
theorem dX1_firstRefused_10 : decode cX1_firstRefused 10 = .ok (.aload_n 0, 1) := by decide +kernel
theorem dX1_firstRefused_11 : decode cX1_firstRefused 11 = .ok (.getfield 22, 3) := by decide +kernel
theorem dX1_firstRefused_14 : decode cX1_firstRefused 14 = .ok (.iload_n 1, 1) := by decide +kernel
theorem dX1_firstRefused_15 : decode cX1_firstRefused 15 = .ok (.caload, 1) := by decide +kernel
theorem dX1_firstRefused_16 : decode cX1_firstRefused 16 = .ok (.aload_n 0, 1) := by decide +kernel
theorem dX1_firstRefused_17 : decode cX1_firstRefused 17 = .ok (.getfield 31, 3) := by decide +kernel
theorem dX1_firstRefused_20 : decode cX1_firstRefused 20 = .ok (.iload_n 1, 1) := by decide +kernel
theorem dX1_firstRefused_21 : decode cX1_firstRefused 21 = .ok (.aaload, 1) := by decide +kernel
theorem dX1_firstRefused_22 : decode cX1_firstRefused 22 = .ok (.invokestatic 61, 3) := by decide +kernel
theorem dX1_firstRefused_25 : decode cX1_firstRefused 25 = .ok (.ifCond .eq 10, 3) := by decide +kernel
theorem dX1_firstRefused_28 : decode cX1_firstRefused 28 = .ok (.aload_n 0, 1) := by decide +kernel
theorem dX1_firstRefused_29 : decode cX1_firstRefused 29 = .ok (.getfield 25, 3) := by decide +kernel
theorem dX1_firstRefused_32 : decode cX1_firstRefused 32 = .ok (.iload_n 1, 1) := by decide +kernel
theorem dX1_firstRefused_33 : decode cX1_firstRefused 33 = .ok (.iaload, 1) := by decide +kernel
theorem dX1_firstRefused_34 : decode cX1_firstRefused 34 = .ok (.ireturn, 1) := by decide +kernel
theorem dX1_firstRefused_35 : decode cX1_firstRefused 35 = .ok (.iinc 1 1, 3) := by decide +kernel
theorem dX1_firstRefused_38 : decode cX1_firstRefused 38 = .ok (.goto (-36), 3) := by decide +kernel
theorem dX1_firstRefused_41 : decode cX1_firstRefused 41 = .ok (.bipush (-4), 2) := by decide +kernel
theorem dX1_firstRefused_43 : decode cX1_firstRefused 43 = .ok (.ireturn, 1) := by decide +kernel
theorem dX1_isRefused_0 : decode cX1_isRefused 0 = .ok (.iload_n 0, 1) := by decide +kernel
theorem dX1_isRefused_1 : decode cX1_isRefused 1 = .ok (.lookupswitch 212 #[(101, 179), (102, 73), (108, 146), (115, 43)], 43) := by decide +kernel
theorem dX1_isRefused_44 : decode cX1_isRefused 44 = .ok (.aload_n 1, 1) := by decide +kernel
theorem dX1_isRefused_45 : decode cX1_isRefused 45 = .ok (.iconst 0, 1) := by decide +kernel
theorem dX1_isRefused_46 : decode cX1_isRefused 46 = .ok (.iaload, 1) := by decide +kernel
theorem dX1_isRefused_47 : decode cX1_isRefused 47 = .ok (.aload_n 1, 1) := by decide +kernel
theorem dX1_isRefused_48 : decode cX1_isRefused 48 = .ok (.iconst 1, 1) := by decide +kernel
theorem dX1_isRefused_49 : decode cX1_isRefused 49 = .ok (.iaload, 1) := by decide +kernel
theorem dX1_isRefused_50 : decode cX1_isRefused 50 = .ok (.aload_n 1, 1) := by decide +kernel
theorem dX1_isRefused_51 : decode cX1_isRefused 51 = .ok (.iconst 2, 1) := by decide +kernel
theorem dX1_isRefused_52 : decode cX1_isRefused 52 = .ok (.iaload, 1) := by decide +kernel
theorem dX1_isRefused_53 : decode cX1_isRefused 53 = .ok (.invokestatic 65, 3) := by decide +kernel
theorem dX1_isRefused_56 : decode cX1_isRefused 56 = .ok (.ifCond .eq 12, 3) := by decide +kernel
theorem dX1_isRefused_59 : decode cX1_isRefused 59 = .ok (.aload_n 1, 1) := by decide +kernel
theorem dX1_isRefused_60 : decode cX1_isRefused 60 = .ok (.iconst 3, 1) := by decide +kernel
theorem dX1_isRefused_61 : decode cX1_isRefused 61 = .ok (.iaload, 1) := by decide +kernel
theorem dX1_isRefused_62 : decode cX1_isRefused 62 = .ok (.invokestatic 71, 3) := by decide +kernel
theorem dX1_isRefused_65 : decode cX1_isRefused 65 = .ok (.ifCond .ne 7, 3) := by decide +kernel
theorem dX1_isRefused_68 : decode cX1_isRefused 68 = .ok (.iconst 1, 1) := by decide +kernel
theorem dX1_isRefused_69 : decode cX1_isRefused 69 = .ok (.goto 4, 3) := by decide +kernel
theorem dX1_isRefused_72 : decode cX1_isRefused 72 = .ok (.iconst 0, 1) := by decide +kernel
theorem dX1_isRefused_73 : decode cX1_isRefused 73 = .ok (.ireturn, 1) := by decide +kernel
theorem dX1_isRefused_74 : decode cX1_isRefused 74 = .ok (.aload_n 1, 1) := by decide +kernel
theorem dX1_isRefused_75 : decode cX1_isRefused 75 = .ok (.iconst 0, 1) := by decide +kernel
theorem dX1_isRefused_76 : decode cX1_isRefused 76 = .ok (.iaload, 1) := by decide +kernel
theorem dX1_isRefused_77 : decode cX1_isRefused 77 = .ok (.aload_n 1, 1) := by decide +kernel
theorem dX1_isRefused_78 : decode cX1_isRefused 78 = .ok (.iconst 1, 1) := by decide +kernel
theorem dX1_isRefused_79 : decode cX1_isRefused 79 = .ok (.iaload, 1) := by decide +kernel
theorem dX1_isRefused_80 : decode cX1_isRefused 80 = .ok (.aload_n 1, 1) := by decide +kernel
theorem dX1_isRefused_81 : decode cX1_isRefused 81 = .ok (.iconst 2, 1) := by decide +kernel
theorem dX1_isRefused_82 : decode cX1_isRefused 82 = .ok (.iaload, 1) := by decide +kernel
theorem dX1_isRefused_83 : decode cX1_isRefused 83 = .ok (.invokestatic 65, 3) := by decide +kernel
theorem dX1_isRefused_86 : decode cX1_isRefused 86 = .ok (.ifCond .eq 55, 3) := by decide +kernel
theorem dX1_isRefused_89 : decode cX1_isRefused 89 = .ok (.aload_n 1, 1) := by decide +kernel
theorem dX1_isRefused_90 : decode cX1_isRefused 90 = .ok (.iconst 3, 1) := by decide +kernel
theorem dX1_isRefused_91 : decode cX1_isRefused 91 = .ok (.iaload, 1) := by decide +kernel
theorem dX1_isRefused_92 : decode cX1_isRefused 92 = .ok (.aload_n 1, 1) := by decide +kernel
theorem dX1_isRefused_93 : decode cX1_isRefused 93 = .ok (.iconst 4, 1) := by decide +kernel
theorem dX1_isRefused_94 : decode cX1_isRefused 94 = .ok (.iaload, 1) := by decide +kernel
theorem dX1_isRefused_95 : decode cX1_isRefused 95 = .ok (.aload_n 1, 1) := by decide +kernel
theorem dX1_isRefused_96 : decode cX1_isRefused 96 = .ok (.iconst 5, 1) := by decide +kernel
theorem dX1_isRefused_97 : decode cX1_isRefused 97 = .ok (.iaload, 1) := by decide +kernel
theorem dX1_isRefused_98 : decode cX1_isRefused 98 = .ok (.invokestatic 65, 3) := by decide +kernel
theorem dX1_isRefused_101 : decode cX1_isRefused 101 = .ok (.ifCond .eq 40, 3) := by decide +kernel
theorem dX1_isRefused_104 : decode cX1_isRefused 104 = .ok (.aload_n 1, 1) := by decide +kernel
theorem dX1_isRefused_105 : decode cX1_isRefused 105 = .ok (.bipush 6, 2) := by decide +kernel
theorem dX1_isRefused_107 : decode cX1_isRefused 107 = .ok (.iaload, 1) := by decide +kernel
theorem dX1_isRefused_108 : decode cX1_isRefused 108 = .ok (.invokestatic 71, 3) := by decide +kernel
theorem dX1_isRefused_111 : decode cX1_isRefused 111 = .ok (.ifCond .eq 30, 3) := by decide +kernel
theorem dX1_isRefused_114 : decode cX1_isRefused 114 = .ok (.aload_n 1, 1) := by decide +kernel
theorem dX1_isRefused_115 : decode cX1_isRefused 115 = .ok (.iconst 3, 1) := by decide +kernel
theorem dX1_isRefused_116 : decode cX1_isRefused 116 = .ok (.iaload, 1) := by decide +kernel
theorem dX1_isRefused_117 : decode cX1_isRefused 117 = .ok (.aload_n 1, 1) := by decide +kernel
theorem dX1_isRefused_118 : decode cX1_isRefused 118 = .ok (.iconst 0, 1) := by decide +kernel
theorem dX1_isRefused_119 : decode cX1_isRefused 119 = .ok (.iaload, 1) := by decide +kernel
theorem dX1_isRefused_120 : decode cX1_isRefused 120 = .ok (.if_icmp .lt 21, 3) := by decide +kernel
theorem dX1_isRefused_123 : decode cX1_isRefused 123 = .ok (.aload_n 1, 1) := by decide +kernel
theorem dX1_isRefused_124 : decode cX1_isRefused 124 = .ok (.iconst 4, 1) := by decide +kernel
theorem dX1_isRefused_125 : decode cX1_isRefused 125 = .ok (.iaload, 1) := by decide +kernel
theorem dX1_isRefused_126 : decode cX1_isRefused 126 = .ok (.aload_n 1, 1) := by decide +kernel
theorem dX1_isRefused_127 : decode cX1_isRefused 127 = .ok (.iconst 1, 1) := by decide +kernel
theorem dX1_isRefused_128 : decode cX1_isRefused 128 = .ok (.iaload, 1) := by decide +kernel
theorem dX1_isRefused_129 : decode cX1_isRefused 129 = .ok (.if_icmp .lt 12, 3) := by decide +kernel
theorem dX1_isRefused_132 : decode cX1_isRefused 132 = .ok (.aload_n 1, 1) := by decide +kernel
theorem dX1_isRefused_133 : decode cX1_isRefused 133 = .ok (.iconst 5, 1) := by decide +kernel
theorem dX1_isRefused_134 : decode cX1_isRefused 134 = .ok (.iaload, 1) := by decide +kernel
theorem dX1_isRefused_135 : decode cX1_isRefused 135 = .ok (.aload_n 1, 1) := by decide +kernel
theorem dX1_isRefused_136 : decode cX1_isRefused 136 = .ok (.iconst 2, 1) := by decide +kernel
theorem dX1_isRefused_137 : decode cX1_isRefused 137 = .ok (.iaload, 1) := by decide +kernel
theorem dX1_isRefused_138 : decode cX1_isRefused 138 = .ok (.if_icmp .ge 7, 3) := by decide +kernel
theorem dX1_isRefused_141 : decode cX1_isRefused 141 = .ok (.iconst 1, 1) := by decide +kernel
theorem dX1_isRefused_142 : decode cX1_isRefused 142 = .ok (.goto 4, 3) := by decide +kernel
theorem dX1_isRefused_145 : decode cX1_isRefused 145 = .ok (.iconst 0, 1) := by decide +kernel
theorem dX1_isRefused_146 : decode cX1_isRefused 146 = .ok (.ireturn, 1) := by decide +kernel
theorem dX1_isRefused_147 : decode cX1_isRefused 147 = .ok (.aload_n 1, 1) := by decide +kernel
theorem dX1_isRefused_148 : decode cX1_isRefused 148 = .ok (.iconst 0, 1) := by decide +kernel
theorem dX1_isRefused_149 : decode cX1_isRefused 149 = .ok (.iaload, 1) := by decide +kernel
theorem dX1_isRefused_150 : decode cX1_isRefused 150 = .ok (.invokestatic 71, 3) := by decide +kernel
theorem dX1_isRefused_153 : decode cX1_isRefused 153 = .ok (.ifCond .eq 21, 3) := by decide +kernel
theorem dX1_isRefused_156 : decode cX1_isRefused 156 = .ok (.aload_n 1, 1) := by decide +kernel
theorem dX1_isRefused_157 : decode cX1_isRefused 157 = .ok (.iconst 1, 1) := by decide +kernel
theorem dX1_isRefused_158 : decode cX1_isRefused 158 = .ok (.iaload, 1) := by decide +kernel
theorem dX1_isRefused_159 : decode cX1_isRefused 159 = .ok (.invokestatic 74, 3) := by decide +kernel
theorem dX1_isRefused_162 : decode cX1_isRefused 162 = .ok (.ifCond .eq 12, 3) := by decide +kernel
theorem dX1_isRefused_165 : decode cX1_isRefused 165 = .ok (.aload_n 1, 1) := by decide +kernel
theorem dX1_isRefused_166 : decode cX1_isRefused 166 = .ok (.iconst 2, 1) := by decide +kernel
theorem dX1_isRefused_167 : decode cX1_isRefused 167 = .ok (.iaload, 1) := by decide +kernel
theorem dX1_isRefused_168 : decode cX1_isRefused 168 = .ok (.invokestatic 77, 3) := by decide +kernel
theorem dX1_isRefused_171 : decode cX1_isRefused 171 = .ok (.ifCond .ne 7, 3) := by decide +kernel
theorem dX1_isRefused_174 : decode cX1_isRefused 174 = .ok (.iconst 1, 1) := by decide +kernel
theorem dX1_isRefused_175 : decode cX1_isRefused 175 = .ok (.goto 4, 3) := by decide +kernel
theorem dX1_isRefused_178 : decode cX1_isRefused 178 = .ok (.iconst 0, 1) := by decide +kernel
theorem dX1_isRefused_179 : decode cX1_isRefused 179 = .ok (.ireturn, 1) := by decide +kernel
theorem dX1_isRefused_180 : decode cX1_isRefused 180 = .ok (.aload_n 1, 1) := by decide +kernel
theorem dX1_isRefused_181 : decode cX1_isRefused 181 = .ok (.iconst 0, 1) := by decide +kernel
theorem dX1_isRefused_182 : decode cX1_isRefused 182 = .ok (.iaload, 1) := by decide +kernel
theorem dX1_isRefused_183 : decode cX1_isRefused 183 = .ok (.invokestatic 71, 3) := by decide +kernel
theorem dX1_isRefused_186 : decode cX1_isRefused 186 = .ok (.ifCond .eq 21, 3) := by decide +kernel
theorem dX1_isRefused_189 : decode cX1_isRefused 189 = .ok (.aload_n 1, 1) := by decide +kernel
theorem dX1_isRefused_190 : decode cX1_isRefused 190 = .ok (.iconst 1, 1) := by decide +kernel
theorem dX1_isRefused_191 : decode cX1_isRefused 191 = .ok (.iaload, 1) := by decide +kernel
theorem dX1_isRefused_192 : decode cX1_isRefused 192 = .ok (.invokestatic 80, 3) := by decide +kernel
theorem dX1_isRefused_195 : decode cX1_isRefused 195 = .ok (.ifCond .eq 12, 3) := by decide +kernel
theorem dX1_isRefused_198 : decode cX1_isRefused 198 = .ok (.aload_n 1, 1) := by decide +kernel
theorem dX1_isRefused_199 : decode cX1_isRefused 199 = .ok (.iconst 2, 1) := by decide +kernel
theorem dX1_isRefused_200 : decode cX1_isRefused 200 = .ok (.iaload, 1) := by decide +kernel
theorem dX1_isRefused_201 : decode cX1_isRefused 201 = .ok (.invokestatic 77, 3) := by decide +kernel
theorem dX1_isRefused_204 : decode cX1_isRefused 204 = .ok (.ifCond .ne 7, 3) := by decide +kernel
theorem dX1_isRefused_207 : decode cX1_isRefused 207 = .ok (.iconst 1, 1) := by decide +kernel
theorem dX1_isRefused_208 : decode cX1_isRefused 208 = .ok (.goto 4, 3) := by decide +kernel
theorem dX1_isRefused_211 : decode cX1_isRefused 211 = .ok (.iconst 0, 1) := by decide +kernel
theorem dX1_isRefused_212 : decode cX1_isRefused 212 = .ok (.ireturn, 1) := by decide +kernel
theorem dX1_isRefused_213 : decode cX1_isRefused 213 = .ok (.iconst 1, 1) := by decide +kernel
theorem dX1_isRefused_214 : decode cX1_isRefused 214 = .ok (.ireturn, 1) := by decide +kernel
theorem dX1_execute_0 : decode cX1_execute 0 = .ok (.iconst 0, 1) := by decide +kernel
theorem dX1_execute_1 : decode cX1_execute 1 = .ok (.istore_n 2, 1) := by decide +kernel
theorem dX1_execute_2 : decode cX1_execute 2 = .ok (.iload_n 2, 1) := by decide +kernel
theorem dX1_execute_3 : decode cX1_execute 3 = .ok (.aload_n 0, 1) := by decide +kernel
theorem dX1_execute_4 : decode cX1_execute 4 = .ok (.getfield 34, 3) := by decide +kernel
theorem dX1_execute_7 : decode cX1_execute 7 = .ok (.if_icmp .ge 25, 3) := by decide +kernel
theorem dX1_execute_10 : decode cX1_execute 10 = .ok (.aload_n 0, 1) := by decide +kernel
theorem dX1_execute_11 : decode cX1_execute 11 = .ok (.getfield 22, 3) := by decide +kernel
theorem dX1_execute_14 : decode cX1_execute 14 = .ok (.iload_n 2, 1) := by decide +kernel
theorem dX1_execute_15 : decode cX1_execute 15 = .ok (.caload, 1) := by decide +kernel
theorem dX1_execute_16 : decode cX1_execute 16 = .ok (.aload_n 0, 1) := by decide +kernel
theorem dX1_execute_17 : decode cX1_execute 17 = .ok (.getfield 31, 3) := by decide +kernel
theorem dX1_execute_20 : decode cX1_execute 20 = .ok (.iload_n 2, 1) := by decide +kernel
theorem dX1_execute_21 : decode cX1_execute 21 = .ok (.aaload, 1) := by decide +kernel
theorem dX1_execute_22 : decode cX1_execute 22 = .ok (.aload_n 1, 1) := by decide +kernel
theorem dX1_execute_23 : decode cX1_execute 23 = .ok (.invokestatic 83, 3) := by decide +kernel
theorem dX1_execute_26 : decode cX1_execute 26 = .ok (.iinc 2 1, 3) := by decide +kernel
theorem dX1_execute_29 : decode cX1_execute 29 = .ok (.goto (-27), 3) := by decide +kernel
theorem dX1_execute_32 : decode cX1_execute 32 = .ok (.return_, 1) := by decide +kernel
theorem dX1_make_0 : decode cX1_make 0 = .ok (.iload_n 0, 1) := by decide +kernel
theorem dX1_make_1 : decode cX1_make 1 = .ok (.lookupswitch 141 #[(101, 121), (102, 66), (108, 101), (115, 43)], 43) := by decide +kernel
theorem dX1_make_44 : decode cX1_make 44 = .ok (.aload_n 2, 1) := by decide +kernel
theorem dX1_make_45 : decode cX1_make 45 = .ok (.getfield 87, 3) := by decide +kernel
theorem dX1_make_48 : decode cX1_make 48 = .ok (.aload_n 1, 1) := by decide +kernel
theorem dX1_make_49 : decode cX1_make 49 = .ok (.iconst 0, 1) := by decide +kernel
theorem dX1_make_50 : decode cX1_make 50 = .ok (.iaload, 1) := by decide +kernel
theorem dX1_make_51 : decode cX1_make 51 = .ok (.aload_n 1, 1) := by decide +kernel
theorem dX1_make_52 : decode cX1_make 52 = .ok (.iconst 1, 1) := by decide +kernel
theorem dX1_make_53 : decode cX1_make 53 = .ok (.iaload, 1) := by decide +kernel
theorem dX1_make_54 : decode cX1_make 54 = .ok (.aload_n 1, 1) := by decide +kernel
theorem dX1_make_55 : decode cX1_make 55 = .ok (.iconst 2, 1) := by decide +kernel
theorem dX1_make_56 : decode cX1_make 56 = .ok (.iaload, 1) := by decide +kernel
theorem dX1_make_57 : decode cX1_make 57 = .ok (.invokestatic 92, 3) := by decide +kernel
theorem dX1_make_60 : decode cX1_make 60 = .ok (.aload_n 1, 1) := by decide +kernel
theorem dX1_make_61 : decode cX1_make 61 = .ok (.iconst 3, 1) := by decide +kernel
theorem dX1_make_62 : decode cX1_make 62 = .ok (.iaload, 1) := by decide +kernel
theorem dX1_make_63 : decode cX1_make 63 = .ok (.iastore, 1) := by decide +kernel
theorem dX1_make_64 : decode cX1_make 64 = .ok (.goto 78, 3) := by decide +kernel
theorem dX1_make_67 : decode cX1_make 67 = .ok (.aload_n 2, 1) := by decide +kernel
theorem dX1_make_68 : decode cX1_make 68 = .ok (.aload_n 1, 1) := by decide +kernel
theorem dX1_make_69 : decode cX1_make 69 = .ok (.iconst 0, 1) := by decide +kernel
theorem dX1_make_70 : decode cX1_make 70 = .ok (.iaload, 1) := by decide +kernel
theorem dX1_make_71 : decode cX1_make 71 = .ok (.aload_n 1, 1) := by decide +kernel
theorem dX1_make_72 : decode cX1_make 72 = .ok (.iconst 1, 1) := by decide +kernel
theorem dX1_make_73 : decode cX1_make 73 = .ok (.iaload, 1) := by decide +kernel
theorem dX1_make_74 : decode cX1_make 74 = .ok (.aload_n 1, 1) := by decide +kernel
theorem dX1_make_75 : decode cX1_make 75 = .ok (.iconst 2, 1) := by decide +kernel
theorem dX1_make_76 : decode cX1_make 76 = .ok (.iaload, 1) := by decide +kernel
theorem dX1_make_77 : decode cX1_make 77 = .ok (.invokestatic 92, 3) := by decide +kernel
theorem dX1_make_80 : decode cX1_make 80 = .ok (.aload_n 1, 1) := by decide +kernel
theorem dX1_make_81 : decode cX1_make 81 = .ok (.iconst 3, 1) := by decide +kernel
theorem dX1_make_82 : decode cX1_make 82 = .ok (.iaload, 1) := by decide +kernel
theorem dX1_make_83 : decode cX1_make 83 = .ok (.aload_n 1, 1) := by decide +kernel
theorem dX1_make_84 : decode cX1_make 84 = .ok (.iconst 4, 1) := by decide +kernel
theorem dX1_make_85 : decode cX1_make 85 = .ok (.iaload, 1) := by decide +kernel
theorem dX1_make_86 : decode cX1_make 86 = .ok (.aload_n 1, 1) := by decide +kernel
theorem dX1_make_87 : decode cX1_make 87 = .ok (.iconst 5, 1) := by decide +kernel
theorem dX1_make_88 : decode cX1_make 88 = .ok (.iaload, 1) := by decide +kernel
theorem dX1_make_89 : decode cX1_make 89 = .ok (.invokestatic 92, 3) := by decide +kernel
theorem dX1_make_92 : decode cX1_make 92 = .ok (.aload_n 1, 1) := by decide +kernel
theorem dX1_make_93 : decode cX1_make 93 = .ok (.bipush 6, 2) := by decide +kernel
theorem dX1_make_95 : decode cX1_make 95 = .ok (.iaload, 1) := by decide +kernel
theorem dX1_make_96 : decode cX1_make 96 = .ok (.invokevirtual 96, 3) := by decide +kernel
theorem dX1_make_99 : decode cX1_make 99 = .ok (.goto 43, 3) := by decide +kernel
theorem dX1_make_102 : decode cX1_make 102 = .ok (.aload_n 2, 1) := by decide +kernel
theorem dX1_make_103 : decode cX1_make 103 = .ok (.getfield 100, 3) := by decide +kernel
theorem dX1_make_106 : decode cX1_make 106 = .ok (.aload_n 1, 1) := by decide +kernel
theorem dX1_make_107 : decode cX1_make 107 = .ok (.iconst 0, 1) := by decide +kernel
theorem dX1_make_108 : decode cX1_make 108 = .ok (.iaload, 1) := by decide +kernel
theorem dX1_make_109 : decode cX1_make 109 = .ok (.iconst 4, 1) := by decide +kernel
theorem dX1_make_110 : decode cX1_make 110 = .ok (.imul, 1) := by decide +kernel
theorem dX1_make_111 : decode cX1_make 111 = .ok (.aload_n 1, 1) := by decide +kernel
theorem dX1_make_112 : decode cX1_make 112 = .ok (.iconst 1, 1) := by decide +kernel
theorem dX1_make_113 : decode cX1_make 113 = .ok (.iaload, 1) := by decide +kernel
theorem dX1_make_114 : decode cX1_make 114 = .ok (.iadd, 1) := by decide +kernel
theorem dX1_make_115 : decode cX1_make 115 = .ok (.aload_n 1, 1) := by decide +kernel
theorem dX1_make_116 : decode cX1_make 116 = .ok (.iconst 2, 1) := by decide +kernel
theorem dX1_make_117 : decode cX1_make 117 = .ok (.iaload, 1) := by decide +kernel
theorem dX1_make_118 : decode cX1_make 118 = .ok (.iastore, 1) := by decide +kernel
theorem dX1_make_119 : decode cX1_make 119 = .ok (.goto 23, 3) := by decide +kernel
theorem dX1_make_122 : decode cX1_make 122 = .ok (.aload_n 2, 1) := by decide +kernel
theorem dX1_make_123 : decode cX1_make 123 = .ok (.getfield 103, 3) := by decide +kernel
theorem dX1_make_126 : decode cX1_make 126 = .ok (.aload_n 1, 1) := by decide +kernel
theorem dX1_make_127 : decode cX1_make 127 = .ok (.iconst 0, 1) := by decide +kernel
theorem dX1_make_128 : decode cX1_make 128 = .ok (.iaload, 1) := by decide +kernel
theorem dX1_make_129 : decode cX1_make 129 = .ok (.iconst 4, 1) := by decide +kernel
theorem dX1_make_130 : decode cX1_make 130 = .ok (.imul, 1) := by decide +kernel
theorem dX1_make_131 : decode cX1_make 131 = .ok (.aload_n 1, 1) := by decide +kernel
theorem dX1_make_132 : decode cX1_make 132 = .ok (.iconst 1, 1) := by decide +kernel
theorem dX1_make_133 : decode cX1_make 133 = .ok (.iaload, 1) := by decide +kernel
theorem dX1_make_134 : decode cX1_make 134 = .ok (.iadd, 1) := by decide +kernel
theorem dX1_make_135 : decode cX1_make 135 = .ok (.aload_n 1, 1) := by decide +kernel
theorem dX1_make_136 : decode cX1_make 136 = .ok (.iconst 2, 1) := by decide +kernel
theorem dX1_make_137 : decode cX1_make 137 = .ok (.iaload, 1) := by decide +kernel
theorem dX1_make_138 : decode cX1_make 138 = .ok (.iastore, 1) := by decide +kernel
theorem dX1_make_139 : decode cX1_make 139 = .ok (.goto 3, 3) := by decide +kernel
theorem dX1_make_142 : decode cX1_make 142 = .ok (.return_, 1) := by decide +kernel
theorem dX2_has_0 : decode cX2_has 0 = .ok (.iload_n 0, 1) := by decide +kernel
theorem dX2_has_1 : decode cX2_has 1 = .ok (.ifCond .lt 33, 3) := by decide +kernel
theorem dX2_has_4 : decode cX2_has 4 = .ok (.iload_n 0, 1) := by decide +kernel
theorem dX2_has_5 : decode cX2_has 5 = .ok (.bipush 12, 2) := by decide +kernel
theorem dX2_has_7 : decode cX2_has 7 = .ok (.if_icmp .ge 27, 3) := by decide +kernel
theorem dX2_has_10 : decode cX2_has 10 = .ok (.iload_n 1, 1) := by decide +kernel
theorem dX2_has_11 : decode cX2_has 11 = .ok (.ifCond .lt 23, 3) := by decide +kernel
theorem dX2_has_14 : decode cX2_has 14 = .ok (.iload_n 1, 1) := by decide +kernel
theorem dX2_has_15 : decode cX2_has 15 = .ok (.bipush 8, 2) := by decide +kernel
theorem dX2_has_17 : decode cX2_has 17 = .ok (.if_icmp .ge 17, 3) := by decide +kernel
theorem dX2_has_20 : decode cX2_has 20 = .ok (.iload_n 2, 1) := by decide +kernel
theorem dX2_has_21 : decode cX2_has 21 = .ok (.ifCond .lt 13, 3) := by decide +kernel
theorem dX2_has_24 : decode cX2_has 24 = .ok (.iload_n 2, 1) := by decide +kernel
theorem dX2_has_25 : decode cX2_has 25 = .ok (.bipush 12, 2) := by decide +kernel
theorem dX2_has_27 : decode cX2_has 27 = .ok (.if_icmp .ge 7, 3) := by decide +kernel
theorem dX2_has_30 : decode cX2_has 30 = .ok (.iconst 1, 1) := by decide +kernel
theorem dX2_has_31 : decode cX2_has 31 = .ok (.goto 4, 3) := by decide +kernel
theorem dX2_has_34 : decode cX2_has 34 = .ok (.iconst 0, 1) := by decide +kernel
theorem dX2_has_35 : decode cX2_has 35 = .ok (.ireturn, 1) := by decide +kernel
theorem dX2_cell_0 : decode cX2_cell 0 = .ok (.iload_n 2, 1) := by decide +kernel
theorem dX2_cell_1 : decode cX2_cell 1 = .ok (.bipush 96, 2) := by decide +kernel
theorem dX2_cell_3 : decode cX2_cell 3 = .ok (.imul, 1) := by decide +kernel
theorem dX2_cell_4 : decode cX2_cell 4 = .ok (.iload_n 1, 1) := by decide +kernel
theorem dX2_cell_5 : decode cX2_cell 5 = .ok (.bipush 12, 2) := by decide +kernel
theorem dX2_cell_7 : decode cX2_cell 7 = .ok (.imul, 1) := by decide +kernel
theorem dX2_cell_8 : decode cX2_cell 8 = .ok (.iadd, 1) := by decide +kernel
theorem dX2_cell_9 : decode cX2_cell 9 = .ok (.iload_n 0, 1) := by decide +kernel
theorem dX2_cell_10 : decode cX2_cell 10 = .ok (.iadd, 1) := by decide +kernel
theorem dX2_cell_11 : decode cX2_cell 11 = .ok (.ireturn, 1) := by decide +kernel
theorem dX2_x_0 : decode cX2_x 0 = .ok (.iload_n 0, 1) := by decide +kernel
theorem dX2_x_1 : decode cX2_x 1 = .ok (.bipush 12, 2) := by decide +kernel
theorem dX2_x_3 : decode cX2_x 3 = .ok (.irem, 1) := by decide +kernel
theorem dX2_x_4 : decode cX2_x 4 = .ok (.ireturn, 1) := by decide +kernel
theorem dX2_y_0 : decode cX2_y 0 = .ok (.iload_n 0, 1) := by decide +kernel
theorem dX2_y_1 : decode cX2_y 1 = .ok (.bipush 12, 2) := by decide +kernel
theorem dX2_y_3 : decode cX2_y 3 = .ok (.idiv, 1) := by decide +kernel
theorem dX2_y_4 : decode cX2_y 4 = .ok (.bipush 8, 2) := by decide +kernel
theorem dX2_y_6 : decode cX2_y 6 = .ok (.irem, 1) := by decide +kernel
theorem dX2_y_7 : decode cX2_y 7 = .ok (.ireturn, 1) := by decide +kernel
theorem dX2_z_0 : decode cX2_z 0 = .ok (.iload_n 0, 1) := by decide +kernel
theorem dX2_z_1 : decode cX2_z 1 = .ok (.bipush 96, 2) := by decide +kernel
theorem dX2_z_3 : decode cX2_z 3 = .ok (.idiv, 1) := by decide +kernel
theorem dX2_z_4 : decode cX2_z 4 = .ok (.ireturn, 1) := by decide +kernel
theorem dX2_number_0 : decode cX2_number 0 = .ok (.bipush 100, 2) := by decide +kernel
theorem dX2_number_2 : decode cX2_number 2 = .ok (.iload_n 0, 1) := by decide +kernel
theorem dX2_number_3 : decode cX2_number 3 = .ok (.invokestatic 9, 3) := by decide +kernel
theorem dX2_number_6 : decode cX2_number 6 = .ok (.imul, 1) := by decide +kernel
theorem dX2_number_7 : decode cX2_number 7 = .ok (.bipush 12, 2) := by decide +kernel
theorem dX2_number_9 : decode cX2_number 9 = .ok (.iload_n 0, 1) := by decide +kernel
theorem dX2_number_10 : decode cX2_number 10 = .ok (.invokestatic 15, 3) := by decide +kernel
theorem dX2_number_13 : decode cX2_number 13 = .ok (.imul, 1) := by decide +kernel
theorem dX2_number_14 : decode cX2_number 14 = .ok (.iadd, 1) := by decide +kernel
theorem dX2_number_15 : decode cX2_number 15 = .ok (.iload_n 0, 1) := by decide +kernel
theorem dX2_number_16 : decode cX2_number 16 = .ok (.invokestatic 18, 3) := by decide +kernel
theorem dX2_number_19 : decode cX2_number 19 = .ok (.iadd, 1) := by decide +kernel
theorem dX2_number_20 : decode cX2_number 20 = .ok (.ireturn, 1) := by decide +kernel
theorem dX2_chunk_0 : decode cX2_chunk 0 = .ok (.iconst 3, 1) := by decide +kernel
theorem dX2_chunk_1 : decode cX2_chunk 1 = .ok (.iload_n 0, 1) := by decide +kernel
theorem dX2_chunk_2 : decode cX2_chunk 2 = .ok (.invokestatic 9, 3) := by decide +kernel
theorem dX2_chunk_5 : decode cX2_chunk 5 = .ok (.iconst 4, 1) := by decide +kernel
theorem dX2_chunk_6 : decode cX2_chunk 6 = .ok (.idiv, 1) := by decide +kernel
theorem dX2_chunk_7 : decode cX2_chunk 7 = .ok (.imul, 1) := by decide +kernel
theorem dX2_chunk_8 : decode cX2_chunk 8 = .ok (.iload_n 0, 1) := by decide +kernel
theorem dX2_chunk_9 : decode cX2_chunk 9 = .ok (.invokestatic 18, 3) := by decide +kernel
theorem dX2_chunk_12 : decode cX2_chunk 12 = .ok (.iconst 4, 1) := by decide +kernel
theorem dX2_chunk_13 : decode cX2_chunk 13 = .ok (.idiv, 1) := by decide +kernel
theorem dX2_chunk_14 : decode cX2_chunk 14 = .ok (.iadd, 1) := by decide +kernel
theorem dX2_chunk_15 : decode cX2_chunk 15 = .ok (.ireturn, 1) := by decide +kernel
theorem dX2_neighbor_0 : decode cX2_neighbor 0 = .ok (.iload_n 1, 1) := by decide +kernel
theorem dX2_neighbor_1 : decode cX2_neighbor 1 = .ok (.tableswitch 139 0 5 #[39, 54, 71, 87, 105, 121], 39) := by decide +kernel
theorem dX2_neighbor_40 : decode cX2_neighbor 40 = .ok (.iload_n 0, 1) := by decide +kernel
theorem dX2_neighbor_41 : decode cX2_neighbor 41 = .ok (.invokestatic 18, 3) := by decide +kernel
theorem dX2_neighbor_44 : decode cX2_neighbor 44 = .ok (.ifCond .le 9, 3) := by decide +kernel
theorem dX2_neighbor_47 : decode cX2_neighbor 47 = .ok (.iload_n 0, 1) := by decide +kernel
theorem dX2_neighbor_48 : decode cX2_neighbor 48 = .ok (.iconst 1, 1) := by decide +kernel
theorem dX2_neighbor_49 : decode cX2_neighbor 49 = .ok (.isub, 1) := by decide +kernel
theorem dX2_neighbor_50 : decode cX2_neighbor 50 = .ok (.goto 4, 3) := by decide +kernel
theorem dX2_neighbor_53 : decode cX2_neighbor 53 = .ok (.iconst (-1), 1) := by decide +kernel
theorem dX2_neighbor_54 : decode cX2_neighbor 54 = .ok (.ireturn, 1) := by decide +kernel
theorem dX2_neighbor_55 : decode cX2_neighbor 55 = .ok (.iload_n 0, 1) := by decide +kernel
theorem dX2_neighbor_56 : decode cX2_neighbor 56 = .ok (.invokestatic 18, 3) := by decide +kernel
theorem dX2_neighbor_59 : decode cX2_neighbor 59 = .ok (.bipush 11, 2) := by decide +kernel
theorem dX2_neighbor_61 : decode cX2_neighbor 61 = .ok (.if_icmp .ge 9, 3) := by decide +kernel
theorem dX2_neighbor_64 : decode cX2_neighbor 64 = .ok (.iload_n 0, 1) := by decide +kernel
theorem dX2_neighbor_65 : decode cX2_neighbor 65 = .ok (.iconst 1, 1) := by decide +kernel
theorem dX2_neighbor_66 : decode cX2_neighbor 66 = .ok (.iadd, 1) := by decide +kernel
theorem dX2_neighbor_67 : decode cX2_neighbor 67 = .ok (.goto 4, 3) := by decide +kernel
theorem dX2_neighbor_70 : decode cX2_neighbor 70 = .ok (.iconst (-1), 1) := by decide +kernel
theorem dX2_neighbor_71 : decode cX2_neighbor 71 = .ok (.ireturn, 1) := by decide +kernel
theorem dX2_neighbor_72 : decode cX2_neighbor 72 = .ok (.iload_n 0, 1) := by decide +kernel
theorem dX2_neighbor_73 : decode cX2_neighbor 73 = .ok (.invokestatic 15, 3) := by decide +kernel
theorem dX2_neighbor_76 : decode cX2_neighbor 76 = .ok (.ifCond .le 10, 3) := by decide +kernel
theorem dX2_neighbor_79 : decode cX2_neighbor 79 = .ok (.iload_n 0, 1) := by decide +kernel
theorem dX2_neighbor_80 : decode cX2_neighbor 80 = .ok (.bipush 12, 2) := by decide +kernel
theorem dX2_neighbor_82 : decode cX2_neighbor 82 = .ok (.isub, 1) := by decide +kernel
theorem dX2_neighbor_83 : decode cX2_neighbor 83 = .ok (.goto 4, 3) := by decide +kernel
theorem dX2_neighbor_86 : decode cX2_neighbor 86 = .ok (.iconst (-1), 1) := by decide +kernel
theorem dX2_neighbor_87 : decode cX2_neighbor 87 = .ok (.ireturn, 1) := by decide +kernel
theorem dX2_neighbor_88 : decode cX2_neighbor 88 = .ok (.iload_n 0, 1) := by decide +kernel
theorem dX2_neighbor_89 : decode cX2_neighbor 89 = .ok (.invokestatic 15, 3) := by decide +kernel
theorem dX2_neighbor_92 : decode cX2_neighbor 92 = .ok (.bipush 7, 2) := by decide +kernel
theorem dX2_neighbor_94 : decode cX2_neighbor 94 = .ok (.if_icmp .ge 10, 3) := by decide +kernel
theorem dX2_neighbor_97 : decode cX2_neighbor 97 = .ok (.iload_n 0, 1) := by decide +kernel
theorem dX2_neighbor_98 : decode cX2_neighbor 98 = .ok (.bipush 12, 2) := by decide +kernel
theorem dX2_neighbor_100 : decode cX2_neighbor 100 = .ok (.iadd, 1) := by decide +kernel
theorem dX2_neighbor_101 : decode cX2_neighbor 101 = .ok (.goto 4, 3) := by decide +kernel
theorem dX2_neighbor_104 : decode cX2_neighbor 104 = .ok (.iconst (-1), 1) := by decide +kernel
theorem dX2_neighbor_105 : decode cX2_neighbor 105 = .ok (.ireturn, 1) := by decide +kernel
theorem dX2_neighbor_106 : decode cX2_neighbor 106 = .ok (.iload_n 0, 1) := by decide +kernel
theorem dX2_neighbor_107 : decode cX2_neighbor 107 = .ok (.invokestatic 9, 3) := by decide +kernel
theorem dX2_neighbor_110 : decode cX2_neighbor 110 = .ok (.ifCond .le 10, 3) := by decide +kernel
theorem dX2_neighbor_113 : decode cX2_neighbor 113 = .ok (.iload_n 0, 1) := by decide +kernel
theorem dX2_neighbor_114 : decode cX2_neighbor 114 = .ok (.bipush 96, 2) := by decide +kernel
theorem dX2_neighbor_116 : decode cX2_neighbor 116 = .ok (.isub, 1) := by decide +kernel
theorem dX2_neighbor_117 : decode cX2_neighbor 117 = .ok (.goto 4, 3) := by decide +kernel
theorem dX2_neighbor_120 : decode cX2_neighbor 120 = .ok (.iconst (-1), 1) := by decide +kernel
theorem dX2_neighbor_121 : decode cX2_neighbor 121 = .ok (.ireturn, 1) := by decide +kernel
theorem dX2_neighbor_122 : decode cX2_neighbor 122 = .ok (.iload_n 0, 1) := by decide +kernel
theorem dX2_neighbor_123 : decode cX2_neighbor 123 = .ok (.invokestatic 9, 3) := by decide +kernel
theorem dX2_neighbor_126 : decode cX2_neighbor 126 = .ok (.bipush 11, 2) := by decide +kernel
theorem dX2_neighbor_128 : decode cX2_neighbor 128 = .ok (.if_icmp .ge 10, 3) := by decide +kernel
theorem dX2_neighbor_131 : decode cX2_neighbor 131 = .ok (.iload_n 0, 1) := by decide +kernel
theorem dX2_neighbor_132 : decode cX2_neighbor 132 = .ok (.bipush 96, 2) := by decide +kernel
theorem dX2_neighbor_134 : decode cX2_neighbor 134 = .ok (.iadd, 1) := by decide +kernel
theorem dX2_neighbor_135 : decode cX2_neighbor 135 = .ok (.goto 4, 3) := by decide +kernel
theorem dX2_neighbor_138 : decode cX2_neighbor 138 = .ok (.iconst (-1), 1) := by decide +kernel
theorem dX2_neighbor_139 : decode cX2_neighbor 139 = .ok (.ireturn, 1) := by decide +kernel
theorem dX2_neighbor_140 : decode cX2_neighbor 140 = .ok (.iconst (-1), 1) := by decide +kernel
theorem dX2_neighbor_141 : decode cX2_neighbor 141 = .ok (.ireturn, 1) := by decide +kernel
theorem dX3_init_0 : decode cX3_init 0 = .ok (.aload_n 0, 1) := by decide +kernel
theorem dX3_init_1 : decode cX3_init 1 = .ok (.invokespecial 3, 3) := by decide +kernel
theorem dX3_init_4 : decode cX3_init 4 = .ok (.aload_n 0, 1) := by decide +kernel
theorem dX3_init_5 : decode cX3_init 5 = .ok (.bipush 6, 2) := by decide +kernel
theorem dX3_init_7 : decode cX3_init 7 = .ok (.anewarray 9, 3) := by decide +kernel
theorem dX3_init_10 : decode cX3_init 10 = .ok (.putfield 11, 3) := by decide +kernel
theorem dX3_init_13 : decode cX3_init 13 = .ok (.aload_n 0, 1) := by decide +kernel
theorem dX3_init_14 : decode cX3_init 14 = .ok (.iconst 0, 1) := by decide +kernel
theorem dX3_init_15 : decode cX3_init 15 = .ok (.putfield 17, 3) := by decide +kernel
theorem dX3_init_18 : decode cX3_init 18 = .ok (.aload_n 0, 1) := by decide +kernel
theorem dX3_init_19 : decode cX3_init 19 = .ok (.iconst 0, 1) := by decide +kernel
theorem dX3_init_20 : decode cX3_init 20 = .ok (.putfield 21, 3) := by decide +kernel
theorem dX3_init_23 : decode cX3_init 23 = .ok (.iconst 0, 1) := by decide +kernel
theorem dX3_init_24 : decode cX3_init 24 = .ok (.istore_n 1, 1) := by decide +kernel
theorem dX3_init_25 : decode cX3_init 25 = .ok (.iload_n 1, 1) := by decide +kernel
theorem dX3_init_26 : decode cX3_init 26 = .ok (.bipush 6, 2) := by decide +kernel
theorem dX3_init_28 : decode cX3_init 28 = .ok (.if_icmp .ge 22, 3) := by decide +kernel
theorem dX3_init_31 : decode cX3_init 31 = .ok (.aload_n 0, 1) := by decide +kernel
theorem dX3_init_32 : decode cX3_init 32 = .ok (.getfield 11, 3) := by decide +kernel
theorem dX3_init_35 : decode cX3_init 35 = .ok (.iload_n 1, 1) := by decide +kernel
theorem dX3_init_36 : decode cX3_init 36 = .ok (.new 9, 3) := by decide +kernel
theorem dX3_init_39 : decode cX3_init 39 = .ok (.dup, 1) := by decide +kernel
theorem dX3_init_40 : decode cX3_init 40 = .ok (.invokespecial 24, 3) := by decide +kernel
theorem dX3_init_43 : decode cX3_init 43 = .ok (.aastore, 1) := by decide +kernel
theorem dX3_init_44 : decode cX3_init 44 = .ok (.iinc 1 1, 3) := by decide +kernel
theorem dX3_init_47 : decode cX3_init 47 = .ok (.goto (-22), 3) := by decide +kernel
theorem dX3_init_50 : decode cX3_init 50 = .ok (.return_, 1) := by decide +kernel
theorem dX3_push_0 : decode cX3_push 0 = .ok (.aload_n 0, 1) := by decide +kernel
theorem dX3_push_1 : decode cX3_push 1 = .ok (.aload_n 0, 1) := by decide +kernel
theorem dX3_push_2 : decode cX3_push 2 = .ok (.getfield 17, 3) := by decide +kernel
theorem dX3_push_5 : decode cX3_push 5 = .ok (.iconst 1, 1) := by decide +kernel
theorem dX3_push_6 : decode cX3_push 6 = .ok (.iadd, 1) := by decide +kernel
theorem dX3_push_7 : decode cX3_push 7 = .ok (.bipush 6, 2) := by decide +kernel
theorem dX3_push_9 : decode cX3_push 9 = .ok (.irem, 1) := by decide +kernel
theorem dX3_push_10 : decode cX3_push 10 = .ok (.putfield 17, 3) := by decide +kernel
theorem dX3_push_13 : decode cX3_push 13 = .ok (.aload_n 0, 1) := by decide +kernel
theorem dX3_push_14 : decode cX3_push 14 = .ok (.getfield 11, 3) := by decide +kernel
theorem dX3_push_17 : decode cX3_push 17 = .ok (.aload_n 0, 1) := by decide +kernel
theorem dX3_push_18 : decode cX3_push 18 = .ok (.getfield 17, 3) := by decide +kernel
theorem dX3_push_21 : decode cX3_push 21 = .ok (.aaload, 1) := by decide +kernel
theorem dX3_push_22 : decode cX3_push 22 = .ok (.aload_n 1, 1) := by decide +kernel
theorem dX3_push_23 : decode cX3_push 23 = .ok (.invokevirtual 25, 3) := by decide +kernel
theorem dX3_push_26 : decode cX3_push 26 = .ok (.aload_n 0, 1) := by decide +kernel
theorem dX3_push_27 : decode cX3_push 27 = .ok (.aload_n 0, 1) := by decide +kernel
theorem dX3_push_28 : decode cX3_push 28 = .ok (.getfield 21, 3) := by decide +kernel
theorem dX3_push_31 : decode cX3_push 31 = .ok (.iconst 1, 1) := by decide +kernel
theorem dX3_push_32 : decode cX3_push 32 = .ok (.iadd, 1) := by decide +kernel
theorem dX3_push_33 : decode cX3_push 33 = .ok (.bipush 6, 2) := by decide +kernel
theorem dX3_push_35 : decode cX3_push 35 = .ok (.invokestatic 29, 3) := by decide +kernel
theorem dX3_push_38 : decode cX3_push 38 = .ok (.putfield 21, 3) := by decide +kernel
theorem dX3_push_41 : decode cX3_push 41 = .ok (.return_, 1) := by decide +kernel
theorem dX3_pop_0 : decode cX3_pop 0 = .ok (.aload_n 1, 1) := by decide +kernel
theorem dX3_pop_1 : decode cX3_pop 1 = .ok (.aload_n 0, 1) := by decide +kernel
theorem dX3_pop_2 : decode cX3_pop 2 = .ok (.getfield 11, 3) := by decide +kernel
theorem dX3_pop_5 : decode cX3_pop 5 = .ok (.aload_n 0, 1) := by decide +kernel
theorem dX3_pop_6 : decode cX3_pop 6 = .ok (.getfield 17, 3) := by decide +kernel
theorem dX3_pop_9 : decode cX3_pop 9 = .ok (.aaload, 1) := by decide +kernel
theorem dX3_pop_10 : decode cX3_pop 10 = .ok (.invokevirtual 25, 3) := by decide +kernel
theorem dX3_pop_13 : decode cX3_pop 13 = .ok (.aload_n 0, 1) := by decide +kernel
theorem dX3_pop_14 : decode cX3_pop 14 = .ok (.aload_n 0, 1) := by decide +kernel
theorem dX3_pop_15 : decode cX3_pop 15 = .ok (.getfield 17, 3) := by decide +kernel
theorem dX3_pop_18 : decode cX3_pop 18 = .ok (.bipush 6, 2) := by decide +kernel
theorem dX3_pop_20 : decode cX3_pop 20 = .ok (.iadd, 1) := by decide +kernel
theorem dX3_pop_21 : decode cX3_pop 21 = .ok (.iconst 1, 1) := by decide +kernel
theorem dX3_pop_22 : decode cX3_pop 22 = .ok (.isub, 1) := by decide +kernel
theorem dX3_pop_23 : decode cX3_pop 23 = .ok (.bipush 6, 2) := by decide +kernel
theorem dX3_pop_25 : decode cX3_pop 25 = .ok (.irem, 1) := by decide +kernel
theorem dX3_pop_26 : decode cX3_pop 26 = .ok (.putfield 17, 3) := by decide +kernel
theorem dX3_pop_29 : decode cX3_pop 29 = .ok (.aload_n 0, 1) := by decide +kernel
theorem dX3_pop_30 : decode cX3_pop 30 = .ok (.dup, 1) := by decide +kernel
theorem dX3_pop_31 : decode cX3_pop 31 = .ok (.getfield 21, 3) := by decide +kernel
theorem dX3_pop_34 : decode cX3_pop 34 = .ok (.iconst 1, 1) := by decide +kernel
theorem dX3_pop_35 : decode cX3_pop 35 = .ok (.isub, 1) := by decide +kernel
theorem dX3_pop_36 : decode cX3_pop 36 = .ok (.putfield 21, 3) := by decide +kernel
theorem dX3_pop_39 : decode cX3_pop 39 = .ok (.return_, 1) := by decide +kernel
theorem dX4_init_0 : decode cX4_init 0 = .ok (.aload_n 0, 1) := by decide +kernel
theorem dX4_init_1 : decode cX4_init 1 = .ok (.invokespecial 3, 3) := by decide +kernel
theorem dX4_init_4 : decode cX4_init 4 = .ok (.aload_n 0, 1) := by decide +kernel
theorem dX4_init_5 : decode cX4_init 5 = .ok (.bipush 16, 2) := by decide +kernel
theorem dX4_init_7 : decode cX4_init 7 = .ok (.newarray .int, 2) := by decide +kernel
theorem dX4_init_9 : decode cX4_init 9 = .ok (.putfield 9, 3) := by decide +kernel
theorem dX4_init_12 : decode cX4_init 12 = .ok (.aload_n 0, 1) := by decide +kernel
theorem dX4_init_13 : decode cX4_init 13 = .ok (.sipush 2304, 3) := by decide +kernel
theorem dX4_init_16 : decode cX4_init 16 = .ok (.newarray .int, 2) := by decide +kernel
theorem dX4_init_18 : decode cX4_init 18 = .ok (.putfield 15, 3) := by decide +kernel
theorem dX4_init_21 : decode cX4_init 21 = .ok (.aload_n 0, 1) := by decide +kernel
theorem dX4_init_22 : decode cX4_init 22 = .ok (.sipush 2304, 3) := by decide +kernel
theorem dX4_init_25 : decode cX4_init 25 = .ok (.newarray .int, 2) := by decide +kernel
theorem dX4_init_27 : decode cX4_init 27 = .ok (.putfield 18, 3) := by decide +kernel
theorem dX4_init_30 : decode cX4_init 30 = .ok (.aload_n 0, 1) := by decide +kernel
theorem dX4_init_31 : decode cX4_init 31 = .ok (.iconst 0, 1) := by decide +kernel
theorem dX4_init_32 : decode cX4_init 32 = .ok (.putfield 21, 3) := by decide +kernel
theorem dX4_init_35 : decode cX4_init 35 = .ok (.return_, 1) := by decide +kernel
theorem dX4_find_0 : decode cX4_find 0 = .ok (.aload_n 0, 1) := by decide +kernel
theorem dX4_find_1 : decode cX4_find 1 = .ok (.iconst 0, 1) := by decide +kernel
theorem dX4_find_2 : decode cX4_find 2 = .ok (.putfield 21, 3) := by decide +kernel
theorem dX4_find_5 : decode cX4_find 5 = .ok (.iconst 0, 1) := by decide +kernel
theorem dX4_find_6 : decode cX4_find 6 = .ok (.istore 5, 2) := by decide +kernel
theorem dX4_find_8 : decode cX4_find 8 = .ok (.iload 5, 2) := by decide +kernel
theorem dX4_find_10 : decode cX4_find 10 = .ok (.bipush 15, 2) := by decide +kernel
theorem dX4_find_12 : decode cX4_find 12 = .ok (.if_icmp .gt 17, 3) := by decide +kernel
theorem dX4_find_15 : decode cX4_find 15 = .ok (.aload_n 0, 1) := by decide +kernel
theorem dX4_find_16 : decode cX4_find 16 = .ok (.getfield 9, 3) := by decide +kernel
theorem dX4_find_19 : decode cX4_find 19 = .ok (.iload 5, 2) := by decide +kernel
theorem dX4_find_21 : decode cX4_find 21 = .ok (.iconst (-1), 1) := by decide +kernel
theorem dX4_find_22 : decode cX4_find 22 = .ok (.iastore, 1) := by decide +kernel
theorem dX4_find_23 : decode cX4_find 23 = .ok (.iinc 5 1, 3) := by decide +kernel
theorem dX4_find_26 : decode cX4_find 26 = .ok (.goto (-18), 3) := by decide +kernel
theorem dX4_find_29 : decode cX4_find 29 = .ok (.iload_n 2, 1) := by decide +kernel
theorem dX4_find_30 : decode cX4_find 30 = .ok (.iconst 3, 1) := by decide +kernel
theorem dX4_find_31 : decode cX4_find 31 = .ok (.if_icmp .ne 13, 3) := by decide +kernel
theorem dX4_find_34 : decode cX4_find 34 = .ok (.aload_n 0, 1) := by decide +kernel
theorem dX4_find_35 : decode cX4_find 35 = .ok (.aload_n 1, 1) := by decide +kernel
theorem dX4_find_36 : decode cX4_find 36 = .ok (.aload 4, 2) := by decide +kernel
theorem dX4_find_38 : decode cX4_find 38 = .ok (.invokevirtual 25, 3) := by decide +kernel
theorem dX4_find_41 : decode cX4_find 41 = .ok (.goto 12, 3) := by decide +kernel
theorem dX4_find_44 : decode cX4_find 44 = .ok (.aload_n 0, 1) := by decide +kernel
theorem dX4_find_45 : decode cX4_find 45 = .ok (.aload_n 1, 1) := by decide +kernel
theorem dX4_find_46 : decode cX4_find 46 = .ok (.iload_n 2, 1) := by decide +kernel
theorem dX4_find_47 : decode cX4_find 47 = .ok (.iload_n 3, 1) := by decide +kernel
theorem dX4_find_48 : decode cX4_find 48 = .ok (.aload 4, 2) := by decide +kernel
theorem dX4_find_50 : decode cX4_find 50 = .ok (.invokevirtual 29, 3) := by decide +kernel
theorem dX4_find_53 : decode cX4_find 53 = .ok (.bipush 15, 2) := by decide +kernel
theorem dX4_find_55 : decode cX4_find 55 = .ok (.istore 5, 2) := by decide +kernel
theorem dX4_find_57 : decode cX4_find 57 = .ok (.iload 5, 2) := by decide +kernel
theorem dX4_find_59 : decode cX4_find 59 = .ok (.iconst 1, 1) := by decide +kernel
theorem dX4_find_60 : decode cX4_find 60 = .ok (.if_icmp .le 80, 3) := by decide +kernel
theorem dX4_find_63 : decode cX4_find 63 = .ok (.aload_n 0, 1) := by decide +kernel
theorem dX4_find_64 : decode cX4_find 64 = .ok (.getfield 9, 3) := by decide +kernel
theorem dX4_find_67 : decode cX4_find 67 = .ok (.iload 5, 2) := by decide +kernel
theorem dX4_find_69 : decode cX4_find 69 = .ok (.iaload, 1) := by decide +kernel
theorem dX4_find_70 : decode cX4_find 70 = .ok (.istore 6, 2) := by decide +kernel
theorem dX4_find_72 : decode cX4_find 72 = .ok (.iconst 0, 1) := by decide +kernel
theorem dX4_find_73 : decode cX4_find 73 = .ok (.istore 7, 2) := by decide +kernel
theorem dX4_find_75 : decode cX4_find 75 = .ok (.iload 6, 2) := by decide +kernel
theorem dX4_find_77 : decode cX4_find 77 = .ok (.iconst (-1), 1) := by decide +kernel
theorem dX4_find_78 : decode cX4_find 78 = .ok (.if_icmp .eq 56, 3) := by decide +kernel
theorem dX4_find_81 : decode cX4_find 81 = .ok (.iload 7, 2) := by decide +kernel
theorem dX4_find_83 : decode cX4_find 83 = .ok (.sipush 2304, 3) := by decide +kernel
theorem dX4_find_86 : decode cX4_find 86 = .ok (.if_icmp .ge 48, 3) := by decide +kernel
theorem dX4_find_89 : decode cX4_find 89 = .ok (.aload 4, 2) := by decide +kernel
theorem dX4_find_91 : decode cX4_find 91 = .ok (.aload_n 0, 1) := by decide +kernel
theorem dX4_find_92 : decode cX4_find 92 = .ok (.getfield 18, 3) := by decide +kernel
theorem dX4_find_95 : decode cX4_find 95 = .ok (.iload 6, 2) := by decide +kernel
theorem dX4_find_97 : decode cX4_find 97 = .ok (.iaload, 1) := by decide +kernel
theorem dX4_find_98 : decode cX4_find 98 = .ok (.iaload, 1) := by decide +kernel
theorem dX4_find_99 : decode cX4_find 99 = .ok (.iload 5, 2) := by decide +kernel
theorem dX4_find_101 : decode cX4_find 101 = .ok (.if_icmp .ne 18, 3) := by decide +kernel
theorem dX4_find_104 : decode cX4_find 104 = .ok (.aload_n 0, 1) := by decide +kernel
theorem dX4_find_105 : decode cX4_find 105 = .ok (.aload_n 1, 1) := by decide +kernel
theorem dX4_find_106 : decode cX4_find 106 = .ok (.iload_n 2, 1) := by decide +kernel
theorem dX4_find_107 : decode cX4_find 107 = .ok (.aload_n 0, 1) := by decide +kernel
theorem dX4_find_108 : decode cX4_find 108 = .ok (.getfield 18, 3) := by decide +kernel
theorem dX4_find_111 : decode cX4_find 111 = .ok (.iload 6, 2) := by decide +kernel
theorem dX4_find_113 : decode cX4_find 113 = .ok (.iaload, 1) := by decide +kernel
theorem dX4_find_114 : decode cX4_find 114 = .ok (.aload 4, 2) := by decide +kernel
theorem dX4_find_116 : decode cX4_find 116 = .ok (.invokevirtual 33, 3) := by decide +kernel
theorem dX4_find_119 : decode cX4_find 119 = .ok (.aload_n 0, 1) := by decide +kernel
theorem dX4_find_120 : decode cX4_find 120 = .ok (.getfield 15, 3) := by decide +kernel
theorem dX4_find_123 : decode cX4_find 123 = .ok (.iload 6, 2) := by decide +kernel
theorem dX4_find_125 : decode cX4_find 125 = .ok (.iaload, 1) := by decide +kernel
theorem dX4_find_126 : decode cX4_find 126 = .ok (.istore 6, 2) := by decide +kernel
theorem dX4_find_128 : decode cX4_find 128 = .ok (.iinc 7 1, 3) := by decide +kernel
theorem dX4_find_131 : decode cX4_find 131 = .ok (.goto (-56), 3) := by decide +kernel
theorem dX4_find_134 : decode cX4_find 134 = .ok (.iinc 5 (-1), 3) := by decide +kernel
theorem dX4_find_137 : decode cX4_find 137 = .ok (.goto (-80), 3) := by decide +kernel
theorem dX4_find_140 : decode cX4_find 140 = .ok (.return_, 1) := by decide +kernel
theorem dX4_enterEmissions_0 : decode cX4_enterEmissions 0 = .ok (.iconst 0, 1) := by decide +kernel
theorem dX4_enterEmissions_1 : decode cX4_enterEmissions 1 = .ok (.istore 5, 2) := by decide +kernel
theorem dX4_enterEmissions_3 : decode cX4_enterEmissions 3 = .ok (.iload 5, 2) := by decide +kernel
theorem dX4_enterEmissions_5 : decode cX4_enterEmissions 5 = .ok (.sipush 1152, 3) := by decide +kernel
theorem dX4_enterEmissions_8 : decode cX4_enterEmissions 8 = .ok (.if_icmp .ge 34, 3) := by decide +kernel
theorem dX4_enterEmissions_11 : decode cX4_enterEmissions 11 = .ok (.aload_n 0, 1) := by decide +kernel
theorem dX4_enterEmissions_12 : decode cX4_enterEmissions 12 = .ok (.iload 5, 2) := by decide +kernel
theorem dX4_enterEmissions_14 : decode cX4_enterEmissions 14 = .ok (.iload 5, 2) := by decide +kernel
theorem dX4_enterEmissions_16 : decode cX4_enterEmissions 16 = .ok (.iload_n 3, 1) := by decide +kernel
theorem dX4_enterEmissions_17 : decode cX4_enterEmissions 17 = .ok (.if_icmp .ne 7, 3) := by decide +kernel
theorem dX4_enterEmissions_20 : decode cX4_enterEmissions 20 = .ok (.iconst 0, 1) := by decide +kernel
theorem dX4_enterEmissions_21 : decode cX4_enterEmissions 21 = .ok (.goto 10, 3) := by decide +kernel
theorem dX4_enterEmissions_24 : decode cX4_enterEmissions 24 = .ok (.aload_n 1, 1) := by decide +kernel
theorem dX4_enterEmissions_25 : decode cX4_enterEmissions 25 = .ok (.iload 5, 2) := by decide +kernel
theorem dX4_enterEmissions_27 : decode cX4_enterEmissions 27 = .ok (.iload_n 2, 1) := by decide +kernel
theorem dX4_enterEmissions_28 : decode cX4_enterEmissions 28 = .ok (.invokevirtual 36, 3) := by decide +kernel
theorem dX4_enterEmissions_31 : decode cX4_enterEmissions 31 = .ok (.aload 4, 2) := by decide +kernel
theorem dX4_enterEmissions_33 : decode cX4_enterEmissions 33 = .ok (.invokevirtual 42, 3) := by decide +kernel
theorem dX4_enterEmissions_36 : decode cX4_enterEmissions 36 = .ok (.iinc 5 1, 3) := by decide +kernel
theorem dX4_enterEmissions_39 : decode cX4_enterEmissions 39 = .ok (.goto (-36), 3) := by decide +kernel
theorem dX4_enterEmissions_42 : decode cX4_enterEmissions 42 = .ok (.return_, 1) := by decide +kernel
theorem dX4_enterSun_0 : decode cX4_enterSun 0 = .ok (.iconst 0, 1) := by decide +kernel
theorem dX4_enterSun_1 : decode cX4_enterSun 1 = .ok (.istore_n 3, 1) := by decide +kernel
theorem dX4_enterSun_2 : decode cX4_enterSun 2 = .ok (.iload_n 3, 1) := by decide +kernel
theorem dX4_enterSun_3 : decode cX4_enterSun 3 = .ok (.bipush 12, 2) := by decide +kernel
theorem dX4_enterSun_5 : decode cX4_enterSun 5 = .ok (.if_icmp .ge 111, 3) := by decide +kernel
theorem dX4_enterSun_8 : decode cX4_enterSun 8 = .ok (.bipush 7, 2) := by decide +kernel
theorem dX4_enterSun_10 : decode cX4_enterSun 10 = .ok (.istore 4, 2) := by decide +kernel
theorem dX4_enterSun_12 : decode cX4_enterSun 12 = .ok (.iload 4, 2) := by decide +kernel
theorem dX4_enterSun_14 : decode cX4_enterSun 14 = .ok (.ifCond .lt 96, 3) := by decide +kernel
theorem dX4_enterSun_17 : decode cX4_enterSun 17 = .ok (.iconst 0, 1) := by decide +kernel
theorem dX4_enterSun_18 : decode cX4_enterSun 18 = .ok (.istore 5, 2) := by decide +kernel
theorem dX4_enterSun_20 : decode cX4_enterSun 20 = .ok (.iload 5, 2) := by decide +kernel
theorem dX4_enterSun_22 : decode cX4_enterSun 22 = .ok (.bipush 12, 2) := by decide +kernel
theorem dX4_enterSun_24 : decode cX4_enterSun 24 = .ok (.if_icmp .ge 80, 3) := by decide +kernel
theorem dX4_enterSun_27 : decode cX4_enterSun 27 = .ok (.iload 5, 2) := by decide +kernel
theorem dX4_enterSun_29 : decode cX4_enterSun 29 = .ok (.iload 4, 2) := by decide +kernel
theorem dX4_enterSun_31 : decode cX4_enterSun 31 = .ok (.iload_n 3, 1) := by decide +kernel
theorem dX4_enterSun_32 : decode cX4_enterSun 32 = .ok (.invokestatic 46, 3) := by decide +kernel
theorem dX4_enterSun_35 : decode cX4_enterSun 35 = .ok (.istore 6, 2) := by decide +kernel
theorem dX4_enterSun_37 : decode cX4_enterSun 37 = .ok (.aload_n 1, 1) := by decide +kernel
theorem dX4_enterSun_38 : decode cX4_enterSun 38 = .ok (.iload 6, 2) := by decide +kernel
theorem dX4_enterSun_40 : decode cX4_enterSun 40 = .ok (.iconst 3, 1) := by decide +kernel
theorem dX4_enterSun_41 : decode cX4_enterSun 41 = .ok (.invokevirtual 52, 3) := by decide +kernel
theorem dX4_enterSun_44 : decode cX4_enterSun 44 = .ok (.istore 7, 2) := by decide +kernel
theorem dX4_enterSun_46 : decode cX4_enterSun 46 = .ok (.iload 4, 2) := by decide +kernel
theorem dX4_enterSun_48 : decode cX4_enterSun 48 = .ok (.bipush 7, 2) := by decide +kernel
theorem dX4_enterSun_50 : decode cX4_enterSun 50 = .ok (.if_icmp .ne 18, 3) := by decide +kernel
theorem dX4_enterSun_53 : decode cX4_enterSun 53 = .ok (.aload_n 0, 1) := by decide +kernel
theorem dX4_enterSun_54 : decode cX4_enterSun 54 = .ok (.iload 6, 2) := by decide +kernel
theorem dX4_enterSun_56 : decode cX4_enterSun 56 = .ok (.bipush 15, 2) := by decide +kernel
theorem dX4_enterSun_58 : decode cX4_enterSun 58 = .ok (.iload 7, 2) := by decide +kernel
theorem dX4_enterSun_60 : decode cX4_enterSun 60 = .ok (.isub, 1) := by decide +kernel
theorem dX4_enterSun_61 : decode cX4_enterSun 61 = .ok (.aload_n 2, 1) := by decide +kernel
theorem dX4_enterSun_62 : decode cX4_enterSun 62 = .ok (.invokevirtual 42, 3) := by decide +kernel
theorem dX4_enterSun_65 : decode cX4_enterSun 65 = .ok (.goto 33, 3) := by decide +kernel
theorem dX4_enterSun_68 : decode cX4_enterSun 68 = .ok (.aload_n 0, 1) := by decide +kernel
theorem dX4_enterSun_69 : decode cX4_enterSun 69 = .ok (.iload 6, 2) := by decide +kernel
theorem dX4_enterSun_71 : decode cX4_enterSun 71 = .ok (.iload 7, 2) := by decide +kernel
theorem dX4_enterSun_73 : decode cX4_enterSun 73 = .ok (.ifCond .ne 20, 3) := by decide +kernel
theorem dX4_enterSun_76 : decode cX4_enterSun 76 = .ok (.aload_n 2, 1) := by decide +kernel
theorem dX4_enterSun_77 : decode cX4_enterSun 77 = .ok (.iload 6, 2) := by decide +kernel
theorem dX4_enterSun_79 : decode cX4_enterSun 79 = .ok (.bipush 12, 2) := by decide +kernel
theorem dX4_enterSun_81 : decode cX4_enterSun 81 = .ok (.iadd, 1) := by decide +kernel
theorem dX4_enterSun_82 : decode cX4_enterSun 82 = .ok (.iaload, 1) := by decide +kernel
theorem dX4_enterSun_83 : decode cX4_enterSun 83 = .ok (.bipush 15, 2) := by decide +kernel
theorem dX4_enterSun_85 : decode cX4_enterSun 85 = .ok (.if_icmp .ne 8, 3) := by decide +kernel
theorem dX4_enterSun_88 : decode cX4_enterSun 88 = .ok (.bipush 15, 2) := by decide +kernel
theorem dX4_enterSun_90 : decode cX4_enterSun 90 = .ok (.goto 4, 3) := by decide +kernel
theorem dX4_enterSun_93 : decode cX4_enterSun 93 = .ok (.iconst 0, 1) := by decide +kernel
theorem dX4_enterSun_94 : decode cX4_enterSun 94 = .ok (.aload_n 2, 1) := by decide +kernel
theorem dX4_enterSun_95 : decode cX4_enterSun 95 = .ok (.invokevirtual 42, 3) := by decide +kernel
theorem dX4_enterSun_98 : decode cX4_enterSun 98 = .ok (.iinc 5 1, 3) := by decide +kernel
theorem dX4_enterSun_101 : decode cX4_enterSun 101 = .ok (.goto (-81), 3) := by decide +kernel
theorem dX4_enterSun_104 : decode cX4_enterSun 104 = .ok (.iinc 4 (-1), 3) := by decide +kernel
theorem dX4_enterSun_107 : decode cX4_enterSun 107 = .ok (.goto (-95), 3) := by decide +kernel
theorem dX4_enterSun_110 : decode cX4_enterSun 110 = .ok (.iinc 3 1, 3) := by decide +kernel
theorem dX4_enterSun_113 : decode cX4_enterSun 113 = .ok (.goto (-111), 3) := by decide +kernel
theorem dX4_enterSun_116 : decode cX4_enterSun 116 = .ok (.return_, 1) := by decide +kernel
theorem dX4_give_0 : decode cX4_give 0 = .ok (.aload 4, 2) := by decide +kernel
theorem dX4_give_2 : decode cX4_give 2 = .ok (.iload_n 3, 1) := by decide +kernel
theorem dX4_give_3 : decode cX4_give 3 = .ok (.iaload, 1) := by decide +kernel
theorem dX4_give_4 : decode cX4_give 4 = .ok (.iconst 1, 1) := by decide +kernel
theorem dX4_give_5 : decode cX4_give 5 = .ok (.isub, 1) := by decide +kernel
theorem dX4_give_6 : decode cX4_give 6 = .ok (.istore 5, 2) := by decide +kernel
theorem dX4_give_8 : decode cX4_give 8 = .ok (.iconst 0, 1) := by decide +kernel
theorem dX4_give_9 : decode cX4_give 9 = .ok (.istore 6, 2) := by decide +kernel
theorem dX4_give_11 : decode cX4_give 11 = .ok (.iload 6, 2) := by decide +kernel
theorem dX4_give_13 : decode cX4_give 13 = .ok (.bipush 6, 2) := by decide +kernel
theorem dX4_give_15 : decode cX4_give 15 = .ok (.if_icmp .ge 65, 3) := by decide +kernel
theorem dX4_give_18 : decode cX4_give 18 = .ok (.iload_n 3, 1) := by decide +kernel
theorem dX4_give_19 : decode cX4_give 19 = .ok (.iload 6, 2) := by decide +kernel
theorem dX4_give_21 : decode cX4_give 21 = .ok (.invokestatic 55, 3) := by decide +kernel
theorem dX4_give_24 : decode cX4_give 24 = .ok (.istore 7, 2) := by decide +kernel
theorem dX4_give_26 : decode cX4_give 26 = .ok (.iload 7, 2) := by decide +kernel
theorem dX4_give_28 : decode cX4_give 28 = .ok (.iconst (-1), 1) := by decide +kernel
theorem dX4_give_29 : decode cX4_give 29 = .ok (.if_icmp .eq 45, 3) := by decide +kernel
theorem dX4_give_32 : decode cX4_give 32 = .ok (.aload 4, 2) := by decide +kernel
theorem dX4_give_34 : decode cX4_give 34 = .ok (.iload 7, 2) := by decide +kernel
theorem dX4_give_36 : decode cX4_give 36 = .ok (.iaload, 1) := by decide +kernel
theorem dX4_give_37 : decode cX4_give 37 = .ok (.iload 5, 2) := by decide +kernel
theorem dX4_give_39 : decode cX4_give 39 = .ok (.if_icmp .ge 35, 3) := by decide +kernel
theorem dX4_give_42 : decode cX4_give 42 = .ok (.iload 5, 2) := by decide +kernel
theorem dX4_give_44 : decode cX4_give 44 = .ok (.aload_n 1, 1) := by decide +kernel
theorem dX4_give_45 : decode cX4_give 45 = .ok (.iload 7, 2) := by decide +kernel
theorem dX4_give_47 : decode cX4_give 47 = .ok (.iload_n 2, 1) := by decide +kernel
theorem dX4_give_48 : decode cX4_give 48 = .ok (.invokevirtual 52, 3) := by decide +kernel
theorem dX4_give_51 : decode cX4_give 51 = .ok (.isub, 1) := by decide +kernel
theorem dX4_give_52 : decode cX4_give 52 = .ok (.istore 8, 2) := by decide +kernel
theorem dX4_give_54 : decode cX4_give 54 = .ok (.iload 8, 2) := by decide +kernel
theorem dX4_give_56 : decode cX4_give 56 = .ok (.aload 4, 2) := by decide +kernel
theorem dX4_give_58 : decode cX4_give 58 = .ok (.iload 7, 2) := by decide +kernel
theorem dX4_give_60 : decode cX4_give 60 = .ok (.iaload, 1) := by decide +kernel
theorem dX4_give_61 : decode cX4_give 61 = .ok (.if_icmp .le 13, 3) := by decide +kernel
theorem dX4_give_64 : decode cX4_give 64 = .ok (.aload_n 0, 1) := by decide +kernel
theorem dX4_give_65 : decode cX4_give 65 = .ok (.iload 7, 2) := by decide +kernel
theorem dX4_give_67 : decode cX4_give 67 = .ok (.iload 8, 2) := by decide +kernel
theorem dX4_give_69 : decode cX4_give 69 = .ok (.aload 4, 2) := by decide +kernel
theorem dX4_give_71 : decode cX4_give 71 = .ok (.invokevirtual 42, 3) := by decide +kernel
theorem dX4_give_74 : decode cX4_give 74 = .ok (.iinc 6 1, 3) := by decide +kernel
theorem dX4_give_77 : decode cX4_give 77 = .ok (.goto (-66), 3) := by decide +kernel
theorem dX4_give_80 : decode cX4_give 80 = .ok (.return_, 1) := by decide +kernel
theorem dX4_enter_0 : decode cX4_enter 0 = .ok (.aload_n 3, 1) := by decide +kernel
theorem dX4_enter_1 : decode cX4_enter 1 = .ok (.iload_n 1, 1) := by decide +kernel
theorem dX4_enter_2 : decode cX4_enter 2 = .ok (.iload_n 2, 1) := by decide +kernel
theorem dX4_enter_3 : decode cX4_enter 3 = .ok (.iastore, 1) := by decide +kernel
theorem dX4_enter_4 : decode cX4_enter 4 = .ok (.iload_n 2, 1) := by decide +kernel
theorem dX4_enter_5 : decode cX4_enter 5 = .ok (.ifCond .le 64, 3) := by decide +kernel
theorem dX4_enter_8 : decode cX4_enter 8 = .ok (.iload_n 2, 1) := by decide +kernel
theorem dX4_enter_9 : decode cX4_enter 9 = .ok (.bipush 15, 2) := by decide +kernel
theorem dX4_enter_11 : decode cX4_enter 11 = .ok (.if_icmp .gt 58, 3) := by decide +kernel
theorem dX4_enter_14 : decode cX4_enter 14 = .ok (.aload_n 0, 1) := by decide +kernel
theorem dX4_enter_15 : decode cX4_enter 15 = .ok (.getfield 21, 3) := by decide +kernel
theorem dX4_enter_18 : decode cX4_enter 18 = .ok (.sipush 2304, 3) := by decide +kernel
theorem dX4_enter_21 : decode cX4_enter 21 = .ok (.if_icmp .ge 48, 3) := by decide +kernel
theorem dX4_enter_24 : decode cX4_enter 24 = .ok (.aload_n 0, 1) := by decide +kernel
theorem dX4_enter_25 : decode cX4_enter 25 = .ok (.getfield 18, 3) := by decide +kernel
theorem dX4_enter_28 : decode cX4_enter 28 = .ok (.aload_n 0, 1) := by decide +kernel
theorem dX4_enter_29 : decode cX4_enter 29 = .ok (.getfield 21, 3) := by decide +kernel
theorem dX4_enter_32 : decode cX4_enter 32 = .ok (.iload_n 1, 1) := by decide +kernel
theorem dX4_enter_33 : decode cX4_enter 33 = .ok (.iastore, 1) := by decide +kernel
theorem dX4_enter_34 : decode cX4_enter 34 = .ok (.aload_n 0, 1) := by decide +kernel
theorem dX4_enter_35 : decode cX4_enter 35 = .ok (.getfield 15, 3) := by decide +kernel
theorem dX4_enter_38 : decode cX4_enter 38 = .ok (.aload_n 0, 1) := by decide +kernel
theorem dX4_enter_39 : decode cX4_enter 39 = .ok (.getfield 21, 3) := by decide +kernel
theorem dX4_enter_42 : decode cX4_enter 42 = .ok (.aload_n 0, 1) := by decide +kernel
theorem dX4_enter_43 : decode cX4_enter 43 = .ok (.getfield 9, 3) := by decide +kernel
theorem dX4_enter_46 : decode cX4_enter 46 = .ok (.iload_n 2, 1) := by decide +kernel
theorem dX4_enter_47 : decode cX4_enter 47 = .ok (.iaload, 1) := by decide +kernel
theorem dX4_enter_48 : decode cX4_enter 48 = .ok (.iastore, 1) := by decide +kernel
theorem dX4_enter_49 : decode cX4_enter 49 = .ok (.aload_n 0, 1) := by decide +kernel
theorem dX4_enter_50 : decode cX4_enter 50 = .ok (.getfield 9, 3) := by decide +kernel
theorem dX4_enter_53 : decode cX4_enter 53 = .ok (.iload_n 2, 1) := by decide +kernel
theorem dX4_enter_54 : decode cX4_enter 54 = .ok (.aload_n 0, 1) := by decide +kernel
theorem dX4_enter_55 : decode cX4_enter 55 = .ok (.getfield 21, 3) := by decide +kernel
theorem dX4_enter_58 : decode cX4_enter 58 = .ok (.iastore, 1) := by decide +kernel
theorem dX4_enter_59 : decode cX4_enter 59 = .ok (.aload_n 0, 1) := by decide +kernel
theorem dX4_enter_60 : decode cX4_enter 60 = .ok (.dup, 1) := by decide +kernel
theorem dX4_enter_61 : decode cX4_enter 61 = .ok (.getfield 21, 3) := by decide +kernel
theorem dX4_enter_64 : decode cX4_enter 64 = .ok (.iconst 1, 1) := by decide +kernel
theorem dX4_enter_65 : decode cX4_enter 65 = .ok (.iadd, 1) := by decide +kernel
theorem dX4_enter_66 : decode cX4_enter 66 = .ok (.putfield 21, 3) := by decide +kernel
theorem dX4_enter_69 : decode cX4_enter 69 = .ok (.return_, 1) := by decide +kernel
theorem dX5_init_0 : decode cX5_init 0 = .ok (.aload_n 0, 1) := by decide +kernel
theorem dX5_init_1 : decode cX5_init 1 = .ok (.invokespecial 3, 3) := by decide +kernel
theorem dX5_init_4 : decode cX5_init 4 = .ok (.aload_n 0, 1) := by decide +kernel
theorem dX5_init_5 : decode cX5_init 5 = .ok (.sipush 1152, 3) := by decide +kernel
theorem dX5_init_8 : decode cX5_init 8 = .ok (.newarray .int, 2) := by decide +kernel
theorem dX5_init_10 : decode cX5_init 10 = .ok (.putfield 9, 3) := by decide +kernel
theorem dX5_init_13 : decode cX5_init 13 = .ok (.aload_n 0, 1) := by decide +kernel
theorem dX5_init_14 : decode cX5_init 14 = .ok (.bipush 32, 2) := by decide +kernel
theorem dX5_init_16 : decode cX5_init 16 = .ok (.newarray .int, 2) := by decide +kernel
theorem dX5_init_18 : decode cX5_init 18 = .ok (.putfield 15, 3) := by decide +kernel
theorem dX5_init_21 : decode cX5_init 21 = .ok (.aload_n 0, 1) := by decide +kernel
theorem dX5_init_22 : decode cX5_init 22 = .ok (.bipush 32, 2) := by decide +kernel
theorem dX5_init_24 : decode cX5_init 24 = .ok (.newarray .int, 2) := by decide +kernel
theorem dX5_init_26 : decode cX5_init 26 = .ok (.putfield 18, 3) := by decide +kernel
theorem dX5_init_29 : decode cX5_init 29 = .ok (.iconst 0, 1) := by decide +kernel
theorem dX5_init_30 : decode cX5_init 30 = .ok (.istore_n 1, 1) := by decide +kernel
theorem dX5_init_31 : decode cX5_init 31 = .ok (.iload_n 1, 1) := by decide +kernel
theorem dX5_init_32 : decode cX5_init 32 = .ok (.iconst 4, 1) := by decide +kernel
theorem dX5_init_33 : decode cX5_init 33 = .ok (.if_icmp .ge 19, 3) := by decide +kernel
theorem dX5_init_36 : decode cX5_init 36 = .ok (.aload_n 0, 1) := by decide +kernel
theorem dX5_init_37 : decode cX5_init 37 = .ok (.getfield 15, 3) := by decide +kernel
theorem dX5_init_40 : decode cX5_init 40 = .ok (.iconst 4, 1) := by decide +kernel
theorem dX5_init_41 : decode cX5_init 41 = .ok (.iload_n 1, 1) := by decide +kernel
theorem dX5_init_42 : decode cX5_init 42 = .ok (.iadd, 1) := by decide +kernel
theorem dX5_init_43 : decode cX5_init 43 = .ok (.bipush 15, 2) := by decide +kernel
theorem dX5_init_45 : decode cX5_init 45 = .ok (.iastore, 1) := by decide +kernel
theorem dX5_init_46 : decode cX5_init 46 = .ok (.iinc 1 1, 3) := by decide +kernel
theorem dX5_init_49 : decode cX5_init 49 = .ok (.goto (-18), 3) := by decide +kernel
theorem dX5_init_52 : decode cX5_init 52 = .ok (.return_, 1) := by decide +kernel
theorem dX5_copyFrom_0 : decode cX5_copyFrom 0 = .ok (.aload_n 1, 1) := by decide +kernel
theorem dX5_copyFrom_1 : decode cX5_copyFrom 1 = .ok (.getfield 9, 3) := by decide +kernel
theorem dX5_copyFrom_4 : decode cX5_copyFrom 4 = .ok (.iconst 0, 1) := by decide +kernel
theorem dX5_copyFrom_5 : decode cX5_copyFrom 5 = .ok (.aload_n 0, 1) := by decide +kernel
theorem dX5_copyFrom_6 : decode cX5_copyFrom 6 = .ok (.getfield 9, 3) := by decide +kernel
theorem dX5_copyFrom_9 : decode cX5_copyFrom 9 = .ok (.iconst 0, 1) := by decide +kernel
theorem dX5_copyFrom_10 : decode cX5_copyFrom 10 = .ok (.sipush 1152, 3) := by decide +kernel
theorem dX5_copyFrom_13 : decode cX5_copyFrom 13 = .ok (.invokestatic 21, 3) := by decide +kernel
theorem dX5_copyFrom_16 : decode cX5_copyFrom 16 = .ok (.aload_n 1, 1) := by decide +kernel
theorem dX5_copyFrom_17 : decode cX5_copyFrom 17 = .ok (.getfield 15, 3) := by decide +kernel
theorem dX5_copyFrom_20 : decode cX5_copyFrom 20 = .ok (.iconst 0, 1) := by decide +kernel
theorem dX5_copyFrom_21 : decode cX5_copyFrom 21 = .ok (.aload_n 0, 1) := by decide +kernel
theorem dX5_copyFrom_22 : decode cX5_copyFrom 22 = .ok (.getfield 15, 3) := by decide +kernel
theorem dX5_copyFrom_25 : decode cX5_copyFrom 25 = .ok (.iconst 0, 1) := by decide +kernel
theorem dX5_copyFrom_26 : decode cX5_copyFrom 26 = .ok (.bipush 32, 2) := by decide +kernel
theorem dX5_copyFrom_28 : decode cX5_copyFrom 28 = .ok (.invokestatic 21, 3) := by decide +kernel
theorem dX5_copyFrom_31 : decode cX5_copyFrom 31 = .ok (.aload_n 1, 1) := by decide +kernel
theorem dX5_copyFrom_32 : decode cX5_copyFrom 32 = .ok (.getfield 18, 3) := by decide +kernel
theorem dX5_copyFrom_35 : decode cX5_copyFrom 35 = .ok (.iconst 0, 1) := by decide +kernel
theorem dX5_copyFrom_36 : decode cX5_copyFrom 36 = .ok (.aload_n 0, 1) := by decide +kernel
theorem dX5_copyFrom_37 : decode cX5_copyFrom 37 = .ok (.getfield 18, 3) := by decide +kernel
theorem dX5_copyFrom_40 : decode cX5_copyFrom 40 = .ok (.iconst 0, 1) := by decide +kernel
theorem dX5_copyFrom_41 : decode cX5_copyFrom 41 = .ok (.bipush 32, 2) := by decide +kernel
theorem dX5_copyFrom_43 : decode cX5_copyFrom 43 = .ok (.invokestatic 21, 3) := by decide +kernel
theorem dX5_copyFrom_46 : decode cX5_copyFrom 46 = .ok (.return_, 1) := by decide +kernel
theorem dX5_lossAt_0 : decode cX5_lossAt 0 = .ok (.aload_n 0, 1) := by decide +kernel
theorem dX5_lossAt_1 : decode cX5_lossAt 1 = .ok (.getfield 15, 3) := by decide +kernel
theorem dX5_lossAt_4 : decode cX5_lossAt 4 = .ok (.aload_n 0, 1) := by decide +kernel
theorem dX5_lossAt_5 : decode cX5_lossAt 5 = .ok (.getfield 9, 3) := by decide +kernel
theorem dX5_lossAt_8 : decode cX5_lossAt 8 = .ok (.iload_n 1, 1) := by decide +kernel
theorem dX5_lossAt_9 : decode cX5_lossAt 9 = .ok (.iaload, 1) := by decide +kernel
theorem dX5_lossAt_10 : decode cX5_lossAt 10 = .ok (.iconst 4, 1) := by decide +kernel
theorem dX5_lossAt_11 : decode cX5_lossAt 11 = .ok (.imul, 1) := by decide +kernel
theorem dX5_lossAt_12 : decode cX5_lossAt 12 = .ok (.iload_n 2, 1) := by decide +kernel
theorem dX5_lossAt_13 : decode cX5_lossAt 13 = .ok (.iadd, 1) := by decide +kernel
theorem dX5_lossAt_14 : decode cX5_lossAt 14 = .ok (.iaload, 1) := by decide +kernel
theorem dX5_lossAt_15 : decode cX5_lossAt 15 = .ok (.ireturn, 1) := by decide +kernel
theorem dX5_emissionAt_0 : decode cX5_emissionAt 0 = .ok (.aload_n 0, 1) := by decide +kernel
theorem dX5_emissionAt_1 : decode cX5_emissionAt 1 = .ok (.getfield 18, 3) := by decide +kernel
theorem dX5_emissionAt_4 : decode cX5_emissionAt 4 = .ok (.aload_n 0, 1) := by decide +kernel
theorem dX5_emissionAt_5 : decode cX5_emissionAt 5 = .ok (.getfield 9, 3) := by decide +kernel
theorem dX5_emissionAt_8 : decode cX5_emissionAt 8 = .ok (.iload_n 1, 1) := by decide +kernel
theorem dX5_emissionAt_9 : decode cX5_emissionAt 9 = .ok (.iaload, 1) := by decide +kernel
theorem dX5_emissionAt_10 : decode cX5_emissionAt 10 = .ok (.iconst 4, 1) := by decide +kernel
theorem dX5_emissionAt_11 : decode cX5_emissionAt 11 = .ok (.imul, 1) := by decide +kernel
theorem dX5_emissionAt_12 : decode cX5_emissionAt 12 = .ok (.iload_n 2, 1) := by decide +kernel
theorem dX5_emissionAt_13 : decode cX5_emissionAt 13 = .ok (.iadd, 1) := by decide +kernel
theorem dX5_emissionAt_14 : decode cX5_emissionAt 14 = .ok (.iaload, 1) := by decide +kernel
theorem dX5_emissionAt_15 : decode cX5_emissionAt 15 = .ok (.ireturn, 1) := by decide +kernel
theorem dX5_setBox_0 : decode cX5_setBox 0 = .ok (.iload_n 1, 1) := by decide +kernel
theorem dX5_setBox_1 : decode cX5_setBox 1 = .ok (.istore 4, 2) := by decide +kernel
theorem dX5_setBox_3 : decode cX5_setBox 3 = .ok (.iload 4, 2) := by decide +kernel
theorem dX5_setBox_5 : decode cX5_setBox 5 = .ok (.iload_n 2, 1) := by decide +kernel
theorem dX5_setBox_6 : decode cX5_setBox 6 = .ok (.if_icmp .gt 65, 3) := by decide +kernel
theorem dX5_setBox_9 : decode cX5_setBox 9 = .ok (.iload 4, 2) := by decide +kernel
theorem dX5_setBox_11 : decode cX5_setBox 11 = .ok (.invokestatic 27, 3) := by decide +kernel
theorem dX5_setBox_14 : decode cX5_setBox 14 = .ok (.iload_n 1, 1) := by decide +kernel
theorem dX5_setBox_15 : decode cX5_setBox 15 = .ok (.invokestatic 27, 3) := by decide +kernel
theorem dX5_setBox_18 : decode cX5_setBox 18 = .ok (.if_icmp .lt 47, 3) := by decide +kernel
theorem dX5_setBox_21 : decode cX5_setBox 21 = .ok (.iload 4, 2) := by decide +kernel
theorem dX5_setBox_23 : decode cX5_setBox 23 = .ok (.invokestatic 27, 3) := by decide +kernel
theorem dX5_setBox_26 : decode cX5_setBox 26 = .ok (.iload_n 2, 1) := by decide +kernel
theorem dX5_setBox_27 : decode cX5_setBox 27 = .ok (.invokestatic 27, 3) := by decide +kernel
theorem dX5_setBox_30 : decode cX5_setBox 30 = .ok (.if_icmp .gt 35, 3) := by decide +kernel
theorem dX5_setBox_33 : decode cX5_setBox 33 = .ok (.iload 4, 2) := by decide +kernel
theorem dX5_setBox_35 : decode cX5_setBox 35 = .ok (.invokestatic 33, 3) := by decide +kernel
theorem dX5_setBox_38 : decode cX5_setBox 38 = .ok (.iload_n 1, 1) := by decide +kernel
theorem dX5_setBox_39 : decode cX5_setBox 39 = .ok (.invokestatic 33, 3) := by decide +kernel
theorem dX5_setBox_42 : decode cX5_setBox 42 = .ok (.if_icmp .lt 23, 3) := by decide +kernel
theorem dX5_setBox_45 : decode cX5_setBox 45 = .ok (.iload 4, 2) := by decide +kernel
theorem dX5_setBox_47 : decode cX5_setBox 47 = .ok (.invokestatic 33, 3) := by decide +kernel
theorem dX5_setBox_50 : decode cX5_setBox 50 = .ok (.iload_n 2, 1) := by decide +kernel
theorem dX5_setBox_51 : decode cX5_setBox 51 = .ok (.invokestatic 33, 3) := by decide +kernel
theorem dX5_setBox_54 : decode cX5_setBox 54 = .ok (.if_icmp .gt 11, 3) := by decide +kernel
theorem dX5_setBox_57 : decode cX5_setBox 57 = .ok (.aload_n 0, 1) := by decide +kernel
theorem dX5_setBox_58 : decode cX5_setBox 58 = .ok (.getfield 9, 3) := by decide +kernel
theorem dX5_setBox_61 : decode cX5_setBox 61 = .ok (.iload 4, 2) := by decide +kernel
theorem dX5_setBox_63 : decode cX5_setBox 63 = .ok (.iload_n 3, 1) := by decide +kernel
theorem dX5_setBox_64 : decode cX5_setBox 64 = .ok (.iastore, 1) := by decide +kernel
theorem dX5_setBox_65 : decode cX5_setBox 65 = .ok (.iinc 4 1, 3) := by decide +kernel
theorem dX5_setBox_68 : decode cX5_setBox 68 = .ok (.goto (-65), 3) := by decide +kernel
theorem dX5_setBox_71 : decode cX5_setBox 71 = .ok (.return_, 1) := by decide +kernel
theorem dX5_countFilled_0 : decode cX5_countFilled 0 = .ok (.iconst 0, 1) := by decide +kernel
theorem dX5_countFilled_1 : decode cX5_countFilled 1 = .ok (.istore_n 1, 1) := by decide +kernel
theorem dX5_countFilled_2 : decode cX5_countFilled 2 = .ok (.iconst 0, 1) := by decide +kernel
theorem dX5_countFilled_3 : decode cX5_countFilled 3 = .ok (.istore_n 2, 1) := by decide +kernel
theorem dX5_countFilled_4 : decode cX5_countFilled 4 = .ok (.iload_n 2, 1) := by decide +kernel
theorem dX5_countFilled_5 : decode cX5_countFilled 5 = .ok (.sipush 1152, 3) := by decide +kernel
theorem dX5_countFilled_8 : decode cX5_countFilled 8 = .ok (.if_icmp .ge 21, 3) := by decide +kernel
theorem dX5_countFilled_11 : decode cX5_countFilled 11 = .ok (.aload_n 0, 1) := by decide +kernel
theorem dX5_countFilled_12 : decode cX5_countFilled 12 = .ok (.getfield 9, 3) := by decide +kernel
theorem dX5_countFilled_15 : decode cX5_countFilled 15 = .ok (.iload_n 2, 1) := by decide +kernel
theorem dX5_countFilled_16 : decode cX5_countFilled 16 = .ok (.iaload, 1) := by decide +kernel
theorem dX5_countFilled_17 : decode cX5_countFilled 17 = .ok (.ifCond .eq 6, 3) := by decide +kernel
theorem dX5_countFilled_20 : decode cX5_countFilled 20 = .ok (.iinc 1 1, 3) := by decide +kernel
theorem dX5_countFilled_23 : decode cX5_countFilled 23 = .ok (.iinc 2 1, 3) := by decide +kernel
theorem dX5_countFilled_26 : decode cX5_countFilled 26 = .ok (.goto (-22), 3) := by decide +kernel
theorem dX5_countFilled_29 : decode cX5_countFilled 29 = .ok (.iload_n 1, 1) := by decide +kernel
theorem dX5_countFilled_30 : decode cX5_countFilled 30 = .ok (.ireturn, 1) := by decide +kernel
theorem dX6_init_0 : decode cX6_init 0 = .ok (.aload_n 0, 1) := by decide +kernel
theorem dX6_init_1 : decode cX6_init 1 = .ok (.invokespecial 3, 3) := by decide +kernel
theorem dX6_init_4 : decode cX6_init 4 = .ok (.aload_n 0, 1) := by decide +kernel
theorem dX6_init_5 : decode cX6_init 5 = .ok (.new 9, 3) := by decide +kernel
theorem dX6_init_8 : decode cX6_init 8 = .ok (.dup, 1) := by decide +kernel
theorem dX6_init_9 : decode cX6_init 9 = .ok (.invokespecial 11, 3) := by decide +kernel
theorem dX6_init_12 : decode cX6_init 12 = .ok (.putfield 12, 3) := by decide +kernel
theorem dX6_init_15 : decode cX6_init 15 = .ok (.aload_n 0, 1) := by decide +kernel
theorem dX6_init_16 : decode cX6_init 16 = .ok (.iconst 4, 1) := by decide +kernel
theorem dX6_init_17 : decode cX6_init 17 = .ok (.sipush 1152, 3) := by decide +kernel
theorem dX6_init_20 : decode cX6_init 20 = .ok (.multianewarray 16 2, 4) := by decide +kernel
theorem dX6_init_24 : decode cX6_init 24 = .ok (.putfield 18, 3) := by decide +kernel
theorem dX6_init_27 : decode cX6_init 27 = .ok (.aload_n 0, 1) := by decide +kernel
theorem dX6_init_28 : decode cX6_init 28 = .ok (.new 21, 3) := by decide +kernel
theorem dX6_init_31 : decode cX6_init 31 = .ok (.dup, 1) := by decide +kernel
theorem dX6_init_32 : decode cX6_init 32 = .ok (.invokespecial 23, 3) := by decide +kernel
theorem dX6_init_35 : decode cX6_init 35 = .ok (.putfield 24, 3) := by decide +kernel
theorem dX6_init_38 : decode cX6_init 38 = .ok (.aload_n 0, 1) := by decide +kernel
theorem dX6_init_39 : decode cX6_init 39 = .ok (.sipush 1152, 3) := by decide +kernel
theorem dX6_init_42 : decode cX6_init 42 = .ok (.newarray .int, 2) := by decide +kernel
theorem dX6_init_44 : decode cX6_init 44 = .ok (.putfield 28, 3) := by decide +kernel
theorem dX6_init_47 : decode cX6_init 47 = .ok (.aload_n 0, 1) := by decide +kernel
theorem dX6_init_48 : decode cX6_init 48 = .ok (.sipush 1152, 3) := by decide +kernel
theorem dX6_init_51 : decode cX6_init 51 = .ok (.newarray .int, 2) := by decide +kernel
theorem dX6_init_53 : decode cX6_init 53 = .ok (.putfield 32, 3) := by decide +kernel
theorem dX6_init_56 : decode cX6_init 56 = .ok (.aload_n 0, 1) := by decide +kernel
theorem dX6_init_57 : decode cX6_init 57 = .ok (.sipush 1152, 3) := by decide +kernel
theorem dX6_init_60 : decode cX6_init 60 = .ok (.newarray .boolean, 2) := by decide +kernel
theorem dX6_init_62 : decode cX6_init 62 = .ok (.putfield 35, 3) := by decide +kernel
theorem dX6_init_65 : decode cX6_init 65 = .ok (.aload_n 0, 1) := by decide +kernel
theorem dX6_init_66 : decode cX6_init 66 = .ok (.iconst 0, 1) := by decide +kernel
theorem dX6_init_67 : decode cX6_init 67 = .ok (.putfield 39, 3) := by decide +kernel
theorem dX6_init_70 : decode cX6_init 70 = .ok (.aload_n 0, 1) := by decide +kernel
theorem dX6_init_71 : decode cX6_init 71 = .ok (.new 43, 3) := by decide +kernel
theorem dX6_init_74 : decode cX6_init 74 = .ok (.dup, 1) := by decide +kernel
theorem dX6_init_75 : decode cX6_init 75 = .ok (.invokespecial 45, 3) := by decide +kernel
theorem dX6_init_78 : decode cX6_init 78 = .ok (.putfield 46, 3) := by decide +kernel
theorem dX6_init_81 : decode cX6_init 81 = .ok (.aload_n 0, 1) := by decide +kernel
theorem dX6_init_82 : decode cX6_init 82 = .ok (.new 50, 3) := by decide +kernel
theorem dX6_init_85 : decode cX6_init 85 = .ok (.dup, 1) := by decide +kernel
theorem dX6_init_86 : decode cX6_init 86 = .ok (.invokespecial 52, 3) := by decide +kernel
theorem dX6_init_89 : decode cX6_init 89 = .ok (.putfield 53, 3) := by decide +kernel
theorem dX6_init_92 : decode cX6_init 92 = .ok (.aload_n 0, 1) := by decide +kernel
theorem dX6_init_93 : decode cX6_init 93 = .ok (.new 9, 3) := by decide +kernel
theorem dX6_init_96 : decode cX6_init 96 = .ok (.dup, 1) := by decide +kernel
theorem dX6_init_97 : decode cX6_init 97 = .ok (.invokespecial 11, 3) := by decide +kernel
theorem dX6_init_100 : decode cX6_init 100 = .ok (.putfield 57, 3) := by decide +kernel
theorem dX6_init_103 : decode cX6_init 103 = .ok (.aload_n 0, 1) := by decide +kernel
theorem dX6_init_104 : decode cX6_init 104 = .ok (.iconst 0, 1) := by decide +kernel
theorem dX6_init_105 : decode cX6_init 105 = .ok (.putfield 60, 3) := by decide +kernel
theorem dX6_init_108 : decode cX6_init 108 = .ok (.aload_n 0, 1) := by decide +kernel
theorem dX6_init_109 : decode cX6_init 109 = .ok (.new 64, 3) := by decide +kernel
theorem dX6_init_112 : decode cX6_init 112 = .ok (.dup, 1) := by decide +kernel
theorem dX6_init_113 : decode cX6_init 113 = .ok (.invokespecial 66, 3) := by decide +kernel
theorem dX6_init_116 : decode cX6_init 116 = .ok (.putfield 67, 3) := by decide +kernel
theorem dX6_init_119 : decode cX6_init 119 = .ok (.aload_n 0, 1) := by decide +kernel
theorem dX6_init_120 : decode cX6_init 120 = .ok (.bipush (-4), 2) := by decide +kernel
theorem dX6_init_122 : decode cX6_init 122 = .ok (.putfield 71, 3) := by decide +kernel
theorem dX6_init_125 : decode cX6_init 125 = .ok (.iconst 0, 1) := by decide +kernel
theorem dX6_init_126 : decode cX6_init 126 = .ok (.istore_n 1, 1) := by decide +kernel
theorem dX6_init_127 : decode cX6_init 127 = .ok (.iload_n 1, 1) := by decide +kernel
theorem dX6_init_128 : decode cX6_init 128 = .ok (.sipush 1152, 3) := by decide +kernel
theorem dX6_init_131 : decode cX6_init 131 = .ok (.if_icmp .ge 19, 3) := by decide +kernel
theorem dX6_init_134 : decode cX6_init 134 = .ok (.aload_n 0, 1) := by decide +kernel
theorem dX6_init_135 : decode cX6_init 135 = .ok (.getfield 18, 3) := by decide +kernel
theorem dX6_init_138 : decode cX6_init 138 = .ok (.iconst 3, 1) := by decide +kernel
theorem dX6_init_139 : decode cX6_init 139 = .ok (.aaload, 1) := by decide +kernel
theorem dX6_init_140 : decode cX6_init 140 = .ok (.iload_n 1, 1) := by decide +kernel
theorem dX6_init_141 : decode cX6_init 141 = .ok (.bipush 15, 2) := by decide +kernel
theorem dX6_init_143 : decode cX6_init 143 = .ok (.iastore, 1) := by decide +kernel
theorem dX6_init_144 : decode cX6_init 144 = .ok (.iinc 1 1, 3) := by decide +kernel
theorem dX6_init_147 : decode cX6_init 147 = .ok (.goto (-20), 3) := by decide +kernel
theorem dX6_init_150 : decode cX6_init 150 = .ok (.return_, 1) := by decide +kernel
theorem dX6_set_0 : decode cX6_set 0 = .ok (.iload_n 1, 1) := by decide +kernel
theorem dX6_set_1 : decode cX6_set 1 = .ok (.iload_n 2, 1) := by decide +kernel
theorem dX6_set_2 : decode cX6_set 2 = .ok (.iload_n 3, 1) := by decide +kernel
theorem dX6_set_3 : decode cX6_set 3 = .ok (.invokestatic 74, 3) := by decide +kernel
theorem dX6_set_6 : decode cX6_set 6 = .ok (.ifCond .eq 11, 3) := by decide +kernel
theorem dX6_set_9 : decode cX6_set 9 = .ok (.iload 4, 2) := by decide +kernel
theorem dX6_set_11 : decode cX6_set 11 = .ok (.invokestatic 80, 3) := by decide +kernel
theorem dX6_set_14 : decode cX6_set 14 = .ok (.ifCond .ne 5, 3) := by decide +kernel
theorem dX6_set_17 : decode cX6_set 17 = .ok (.iconst (-1), 1) := by decide +kernel
theorem dX6_set_18 : decode cX6_set 18 = .ok (.ireturn, 1) := by decide +kernel
theorem dX6_set_19 : decode cX6_set 19 = .ok (.iload_n 1, 1) := by decide +kernel
theorem dX6_set_20 : decode cX6_set 20 = .ok (.iload_n 2, 1) := by decide +kernel
theorem dX6_set_21 : decode cX6_set 21 = .ok (.iload_n 3, 1) := by decide +kernel
theorem dX6_set_22 : decode cX6_set 22 = .ok (.invokestatic 84, 3) := by decide +kernel
theorem dX6_set_25 : decode cX6_set 25 = .ok (.istore 5, 2) := by decide +kernel
theorem dX6_set_27 : decode cX6_set 27 = .ok (.aload_n 0, 1) := by decide +kernel
theorem dX6_set_28 : decode cX6_set 28 = .ok (.getfield 46, 3) := by decide +kernel
theorem dX6_set_31 : decode cX6_set 31 = .ok (.getfield 88, 3) := by decide +kernel
theorem dX6_set_34 : decode cX6_set 34 = .ok (.ifCond .eq 15, 3) := by decide +kernel
theorem dX6_set_37 : decode cX6_set 37 = .ok (.aload_n 0, 1) := by decide +kernel
theorem dX6_set_38 : decode cX6_set 38 = .ok (.getfield 46, 3) := by decide +kernel
theorem dX6_set_41 : decode cX6_set 41 = .ok (.iload 5, 2) := by decide +kernel
theorem dX6_set_43 : decode cX6_set 43 = .ok (.iload 4, 2) := by decide +kernel
theorem dX6_set_45 : decode cX6_set 45 = .ok (.invokevirtual 91, 3) := by decide +kernel
theorem dX6_set_48 : decode cX6_set 48 = .ok (.ireturn, 1) := by decide +kernel
theorem dX6_set_49 : decode cX6_set 49 = .ok (.aload_n 0, 1) := by decide +kernel
theorem dX6_set_50 : decode cX6_set 50 = .ok (.getfield 53, 3) := by decide +kernel
theorem dX6_set_53 : decode cX6_set 53 = .ok (.aload_n 0, 1) := by decide +kernel
theorem dX6_set_54 : decode cX6_set 54 = .ok (.getfield 12, 3) := by decide +kernel
theorem dX6_set_57 : decode cX6_set 57 = .ok (.invokevirtual 95, 3) := by decide +kernel
theorem dX6_set_60 : decode cX6_set 60 = .ok (.aload_n 0, 1) := by decide +kernel
theorem dX6_set_61 : decode cX6_set 61 = .ok (.getfield 12, 3) := by decide +kernel
theorem dX6_set_64 : decode cX6_set 64 = .ok (.getfield 99, 3) := by decide +kernel
theorem dX6_set_67 : decode cX6_set 67 = .ok (.iload 5, 2) := by decide +kernel
theorem dX6_set_69 : decode cX6_set 69 = .ok (.iload 4, 2) := by decide +kernel
theorem dX6_set_71 : decode cX6_set 71 = .ok (.iastore, 1) := by decide +kernel
theorem dX6_set_72 : decode cX6_set 72 = .ok (.aload_n 0, 1) := by decide +kernel
theorem dX6_set_73 : decode cX6_set 73 = .ok (.invokevirtual 102, 3) := by decide +kernel
theorem dX6_set_76 : decode cX6_set 76 = .ok (.ireturn, 1) := by decide +kernel
theorem dX6_openBatch_0 : decode cX6_openBatch 0 = .ok (.aload_n 0, 1) := by decide +kernel
theorem dX6_openBatch_1 : decode cX6_openBatch 1 = .ok (.getfield 46, 3) := by decide +kernel
theorem dX6_openBatch_4 : decode cX6_openBatch 4 = .ok (.getfield 88, 3) := by decide +kernel
theorem dX6_openBatch_7 : decode cX6_openBatch 7 = .ok (.ifCond .eq 6, 3) := by decide +kernel
theorem dX6_openBatch_10 : decode cX6_openBatch 10 = .ok (.bipush (-5), 2) := by decide +kernel
theorem dX6_openBatch_12 : decode cX6_openBatch 12 = .ok (.ireturn, 1) := by decide +kernel
theorem dX6_openBatch_13 : decode cX6_openBatch 13 = .ok (.aload_n 0, 1) := by decide +kernel
theorem dX6_openBatch_14 : decode cX6_openBatch 14 = .ok (.getfield 46, 3) := by decide +kernel
theorem dX6_openBatch_17 : decode cX6_openBatch 17 = .ok (.iconst 1, 1) := by decide +kernel
theorem dX6_openBatch_18 : decode cX6_openBatch 18 = .ok (.putfield 88, 3) := by decide +kernel
theorem dX6_openBatch_21 : decode cX6_openBatch 21 = .ok (.iconst 1, 1) := by decide +kernel
theorem dX6_openBatch_22 : decode cX6_openBatch 22 = .ok (.ireturn, 1) := by decide +kernel
theorem dX6_closeBatch_0 : decode cX6_closeBatch 0 = .ok (.aload_n 0, 1) := by decide +kernel
theorem dX6_closeBatch_1 : decode cX6_closeBatch 1 = .ok (.getfield 46, 3) := by decide +kernel
theorem dX6_closeBatch_4 : decode cX6_closeBatch 4 = .ok (.getfield 88, 3) := by decide +kernel
theorem dX6_closeBatch_7 : decode cX6_closeBatch 7 = .ok (.ifCond .ne 6, 3) := by decide +kernel
theorem dX6_closeBatch_10 : decode cX6_closeBatch 10 = .ok (.bipush (-5), 2) := by decide +kernel
theorem dX6_closeBatch_12 : decode cX6_closeBatch 12 = .ok (.ireturn, 1) := by decide +kernel
theorem dX6_closeBatch_13 : decode cX6_closeBatch 13 = .ok (.aload_n 0, 1) := by decide +kernel
theorem dX6_closeBatch_14 : decode cX6_closeBatch 14 = .ok (.getfield 53, 3) := by decide +kernel
theorem dX6_closeBatch_17 : decode cX6_closeBatch 17 = .ok (.aload_n 0, 1) := by decide +kernel
theorem dX6_closeBatch_18 : decode cX6_closeBatch 18 = .ok (.getfield 12, 3) := by decide +kernel
theorem dX6_closeBatch_21 : decode cX6_closeBatch 21 = .ok (.invokevirtual 95, 3) := by decide +kernel
theorem dX6_closeBatch_24 : decode cX6_closeBatch 24 = .ok (.aload_n 0, 1) := by decide +kernel
theorem dX6_closeBatch_25 : decode cX6_closeBatch 25 = .ok (.getfield 46, 3) := by decide +kernel
theorem dX6_closeBatch_28 : decode cX6_closeBatch 28 = .ok (.aload_n 0, 1) := by decide +kernel
theorem dX6_closeBatch_29 : decode cX6_closeBatch 29 = .ok (.getfield 12, 3) := by decide +kernel
theorem dX6_closeBatch_32 : decode cX6_closeBatch 32 = .ok (.invokevirtual 106, 3) := by decide +kernel
theorem dX6_closeBatch_35 : decode cX6_closeBatch 35 = .ok (.aload_n 0, 1) := by decide +kernel
theorem dX6_closeBatch_36 : decode cX6_closeBatch 36 = .ok (.getfield 46, 3) := by decide +kernel
theorem dX6_closeBatch_39 : decode cX6_closeBatch 39 = .ok (.invokevirtual 109, 3) := by decide +kernel
theorem dX6_closeBatch_42 : decode cX6_closeBatch 42 = .ok (.aload_n 0, 1) := by decide +kernel
theorem dX6_closeBatch_43 : decode cX6_closeBatch 43 = .ok (.invokevirtual 102, 3) := by decide +kernel
theorem dX6_closeBatch_46 : decode cX6_closeBatch 46 = .ok (.ireturn, 1) := by decide +kernel
theorem dX6_dropBatch_0 : decode cX6_dropBatch 0 = .ok (.aload_n 0, 1) := by decide +kernel
theorem dX6_dropBatch_1 : decode cX6_dropBatch 1 = .ok (.getfield 46, 3) := by decide +kernel
theorem dX6_dropBatch_4 : decode cX6_dropBatch 4 = .ok (.getfield 88, 3) := by decide +kernel
theorem dX6_dropBatch_7 : decode cX6_dropBatch 7 = .ok (.ifCond .ne 6, 3) := by decide +kernel
theorem dX6_dropBatch_10 : decode cX6_dropBatch 10 = .ok (.bipush (-5), 2) := by decide +kernel
theorem dX6_dropBatch_12 : decode cX6_dropBatch 12 = .ok (.ireturn, 1) := by decide +kernel
theorem dX6_dropBatch_13 : decode cX6_dropBatch 13 = .ok (.aload_n 0, 1) := by decide +kernel
theorem dX6_dropBatch_14 : decode cX6_dropBatch 14 = .ok (.getfield 46, 3) := by decide +kernel
theorem dX6_dropBatch_17 : decode cX6_dropBatch 17 = .ok (.getfield 112, 3) := by decide +kernel
theorem dX6_dropBatch_20 : decode cX6_dropBatch 20 = .ok (.istore_n 1, 1) := by decide +kernel
theorem dX6_dropBatch_21 : decode cX6_dropBatch 21 = .ok (.aload_n 0, 1) := by decide +kernel
theorem dX6_dropBatch_22 : decode cX6_dropBatch 22 = .ok (.getfield 46, 3) := by decide +kernel
theorem dX6_dropBatch_25 : decode cX6_dropBatch 25 = .ok (.invokevirtual 109, 3) := by decide +kernel
theorem dX6_dropBatch_28 : decode cX6_dropBatch 28 = .ok (.iload_n 1, 1) := by decide +kernel
theorem dX6_dropBatch_29 : decode cX6_dropBatch 29 = .ok (.ireturn, 1) := by decide +kernel
theorem dX6_fill_0 : decode cX6_fill 0 = .ok (.aload_n 0, 1) := by decide +kernel
theorem dX6_fill_1 : decode cX6_fill 1 = .ok (.getfield 46, 3) := by decide +kernel
theorem dX6_fill_4 : decode cX6_fill 4 = .ok (.getfield 88, 3) := by decide +kernel
theorem dX6_fill_7 : decode cX6_fill 7 = .ok (.ifCond .eq 6, 3) := by decide +kernel
theorem dX6_fill_10 : decode cX6_fill 10 = .ok (.bipush (-5), 2) := by decide +kernel
theorem dX6_fill_12 : decode cX6_fill 12 = .ok (.ireturn, 1) := by decide +kernel
theorem dX6_fill_13 : decode cX6_fill 13 = .ok (.iload_n 1, 1) := by decide +kernel
theorem dX6_fill_14 : decode cX6_fill 14 = .ok (.iload_n 2, 1) := by decide +kernel
theorem dX6_fill_15 : decode cX6_fill 15 = .ok (.iload_n 3, 1) := by decide +kernel
theorem dX6_fill_16 : decode cX6_fill 16 = .ok (.invokestatic 74, 3) := by decide +kernel
theorem dX6_fill_19 : decode cX6_fill 19 = .ok (.ifCond .eq 11, 3) := by decide +kernel
theorem dX6_fill_22 : decode cX6_fill 22 = .ok (.iload 6, 2) := by decide +kernel
theorem dX6_fill_24 : decode cX6_fill 24 = .ok (.invokestatic 80, 3) := by decide +kernel
theorem dX6_fill_27 : decode cX6_fill 27 = .ok (.ifCond .ne 5, 3) := by decide +kernel
theorem dX6_fill_30 : decode cX6_fill 30 = .ok (.iconst (-1), 1) := by decide +kernel
theorem dX6_fill_31 : decode cX6_fill 31 = .ok (.ireturn, 1) := by decide +kernel
theorem dX6_fill_32 : decode cX6_fill 32 = .ok (.iload 4, 2) := by decide +kernel
theorem dX6_fill_34 : decode cX6_fill 34 = .ok (.iconst 1, 1) := by decide +kernel
theorem dX6_fill_35 : decode cX6_fill 35 = .ok (.if_icmp .lt 36, 3) := by decide +kernel
theorem dX6_fill_38 : decode cX6_fill 38 = .ok (.iload 5, 2) := by decide +kernel
theorem dX6_fill_40 : decode cX6_fill 40 = .ok (.iconst 1, 1) := by decide +kernel
theorem dX6_fill_41 : decode cX6_fill 41 = .ok (.if_icmp .lt 30, 3) := by decide +kernel
theorem dX6_fill_44 : decode cX6_fill 44 = .ok (.iload 4, 2) := by decide +kernel
theorem dX6_fill_46 : decode cX6_fill 46 = .ok (.bipush 12, 2) := by decide +kernel
theorem dX6_fill_48 : decode cX6_fill 48 = .ok (.iload_n 1, 1) := by decide +kernel
theorem dX6_fill_49 : decode cX6_fill 49 = .ok (.isub, 1) := by decide +kernel
theorem dX6_fill_50 : decode cX6_fill 50 = .ok (.if_icmp .gt 21, 3) := by decide +kernel
theorem dX6_fill_53 : decode cX6_fill 53 = .ok (.iload 4, 2) := by decide +kernel
theorem dX6_fill_55 : decode cX6_fill 55 = .ok (.bipush 12, 2) := by decide +kernel
theorem dX6_fill_57 : decode cX6_fill 57 = .ok (.iload_n 3, 1) := by decide +kernel
theorem dX6_fill_58 : decode cX6_fill 58 = .ok (.isub, 1) := by decide +kernel
theorem dX6_fill_59 : decode cX6_fill 59 = .ok (.if_icmp .gt 12, 3) := by decide +kernel
theorem dX6_fill_62 : decode cX6_fill 62 = .ok (.iload 5, 2) := by decide +kernel
theorem dX6_fill_64 : decode cX6_fill 64 = .ok (.bipush 8, 2) := by decide +kernel
theorem dX6_fill_66 : decode cX6_fill 66 = .ok (.iload_n 2, 1) := by decide +kernel
theorem dX6_fill_67 : decode cX6_fill 67 = .ok (.isub, 1) := by decide +kernel
theorem dX6_fill_68 : decode cX6_fill 68 = .ok (.if_icmp .le 6, 3) := by decide +kernel
theorem dX6_fill_71 : decode cX6_fill 71 = .ok (.bipush (-2), 2) := by decide +kernel
theorem dX6_fill_73 : decode cX6_fill 73 = .ok (.ireturn, 1) := by decide +kernel
theorem dX6_fill_74 : decode cX6_fill 74 = .ok (.aload_n 0, 1) := by decide +kernel
theorem dX6_fill_75 : decode cX6_fill 75 = .ok (.getfield 53, 3) := by decide +kernel
theorem dX6_fill_78 : decode cX6_fill 78 = .ok (.aload_n 0, 1) := by decide +kernel
theorem dX6_fill_79 : decode cX6_fill 79 = .ok (.getfield 12, 3) := by decide +kernel
theorem dX6_fill_82 : decode cX6_fill 82 = .ok (.invokevirtual 95, 3) := by decide +kernel
theorem dX6_fill_85 : decode cX6_fill 85 = .ok (.aload_n 0, 1) := by decide +kernel
theorem dX6_fill_86 : decode cX6_fill 86 = .ok (.getfield 12, 3) := by decide +kernel
theorem dX6_fill_89 : decode cX6_fill 89 = .ok (.iload_n 1, 1) := by decide +kernel
theorem dX6_fill_90 : decode cX6_fill 90 = .ok (.iload_n 2, 1) := by decide +kernel
theorem dX6_fill_91 : decode cX6_fill 91 = .ok (.iload_n 3, 1) := by decide +kernel
theorem dX6_fill_92 : decode cX6_fill 92 = .ok (.invokestatic 84, 3) := by decide +kernel
theorem dX6_fill_95 : decode cX6_fill 95 = .ok (.iload_n 1, 1) := by decide +kernel
theorem dX6_fill_96 : decode cX6_fill 96 = .ok (.iload 4, 2) := by decide +kernel
theorem dX6_fill_98 : decode cX6_fill 98 = .ok (.iadd, 1) := by decide +kernel
theorem dX6_fill_99 : decode cX6_fill 99 = .ok (.iconst 1, 1) := by decide +kernel
theorem dX6_fill_100 : decode cX6_fill 100 = .ok (.isub, 1) := by decide +kernel
theorem dX6_fill_101 : decode cX6_fill 101 = .ok (.iload_n 2, 1) := by decide +kernel
theorem dX6_fill_102 : decode cX6_fill 102 = .ok (.iload 5, 2) := by decide +kernel
theorem dX6_fill_104 : decode cX6_fill 104 = .ok (.iadd, 1) := by decide +kernel
theorem dX6_fill_105 : decode cX6_fill 105 = .ok (.iconst 1, 1) := by decide +kernel
theorem dX6_fill_106 : decode cX6_fill 106 = .ok (.isub, 1) := by decide +kernel
theorem dX6_fill_107 : decode cX6_fill 107 = .ok (.iload_n 3, 1) := by decide +kernel
theorem dX6_fill_108 : decode cX6_fill 108 = .ok (.iload 4, 2) := by decide +kernel
theorem dX6_fill_110 : decode cX6_fill 110 = .ok (.iadd, 1) := by decide +kernel
theorem dX6_fill_111 : decode cX6_fill 111 = .ok (.iconst 1, 1) := by decide +kernel
theorem dX6_fill_112 : decode cX6_fill 112 = .ok (.isub, 1) := by decide +kernel
theorem dX6_fill_113 : decode cX6_fill 113 = .ok (.invokestatic 84, 3) := by decide +kernel
theorem dX6_fill_116 : decode cX6_fill 116 = .ok (.iload 6, 2) := by decide +kernel
theorem dX6_fill_118 : decode cX6_fill 118 = .ok (.invokevirtual 115, 3) := by decide +kernel
theorem dX6_fill_121 : decode cX6_fill 121 = .ok (.aload_n 0, 1) := by decide +kernel
theorem dX6_fill_122 : decode cX6_fill 122 = .ok (.invokevirtual 102, 3) := by decide +kernel
theorem dX6_fill_125 : decode cX6_fill 125 = .ok (.ireturn, 1) := by decide +kernel
theorem dX6_setLoss_0 : decode cX6_setLoss 0 = .ok (.aload_n 0, 1) := by decide +kernel
theorem dX6_setLoss_1 : decode cX6_setLoss 1 = .ok (.getfield 46, 3) := by decide +kernel
theorem dX6_setLoss_4 : decode cX6_setLoss 4 = .ok (.getfield 88, 3) := by decide +kernel
theorem dX6_setLoss_7 : decode cX6_setLoss 7 = .ok (.ifCond .eq 6, 3) := by decide +kernel
theorem dX6_setLoss_10 : decode cX6_setLoss 10 = .ok (.bipush (-5), 2) := by decide +kernel
theorem dX6_setLoss_12 : decode cX6_setLoss 12 = .ok (.ireturn, 1) := by decide +kernel
theorem dX6_setLoss_13 : decode cX6_setLoss 13 = .ok (.iload_n 1, 1) := by decide +kernel
theorem dX6_setLoss_14 : decode cX6_setLoss 14 = .ok (.invokestatic 80, 3) := by decide +kernel
theorem dX6_setLoss_17 : decode cX6_setLoss 17 = .ok (.ifCond .eq 10, 3) := by decide +kernel
theorem dX6_setLoss_20 : decode cX6_setLoss 20 = .ok (.iload_n 2, 1) := by decide +kernel
theorem dX6_setLoss_21 : decode cX6_setLoss 21 = .ok (.invokestatic 119, 3) := by decide +kernel
theorem dX6_setLoss_24 : decode cX6_setLoss 24 = .ok (.ifCond .ne 5, 3) := by decide +kernel
theorem dX6_setLoss_27 : decode cX6_setLoss 27 = .ok (.iconst (-1), 1) := by decide +kernel
theorem dX6_setLoss_28 : decode cX6_setLoss 28 = .ok (.ireturn, 1) := by decide +kernel
theorem dX6_setLoss_29 : decode cX6_setLoss 29 = .ok (.iload_n 3, 1) := by decide +kernel
theorem dX6_setLoss_30 : decode cX6_setLoss 30 = .ok (.invokestatic 122, 3) := by decide +kernel
theorem dX6_setLoss_33 : decode cX6_setLoss 33 = .ok (.ifCond .ne 6, 3) := by decide +kernel
theorem dX6_setLoss_36 : decode cX6_setLoss 36 = .ok (.bipush (-2), 2) := by decide +kernel
theorem dX6_setLoss_38 : decode cX6_setLoss 38 = .ok (.ireturn, 1) := by decide +kernel
theorem dX6_setLoss_39 : decode cX6_setLoss 39 = .ok (.aload_n 0, 1) := by decide +kernel
theorem dX6_setLoss_40 : decode cX6_setLoss 40 = .ok (.getfield 53, 3) := by decide +kernel
theorem dX6_setLoss_43 : decode cX6_setLoss 43 = .ok (.aload_n 0, 1) := by decide +kernel
theorem dX6_setLoss_44 : decode cX6_setLoss 44 = .ok (.getfield 12, 3) := by decide +kernel
theorem dX6_setLoss_47 : decode cX6_setLoss 47 = .ok (.invokevirtual 95, 3) := by decide +kernel
theorem dX6_setLoss_50 : decode cX6_setLoss 50 = .ok (.aload_n 0, 1) := by decide +kernel
theorem dX6_setLoss_51 : decode cX6_setLoss 51 = .ok (.getfield 12, 3) := by decide +kernel
theorem dX6_setLoss_54 : decode cX6_setLoss 54 = .ok (.getfield 125, 3) := by decide +kernel
theorem dX6_setLoss_57 : decode cX6_setLoss 57 = .ok (.iload_n 1, 1) := by decide +kernel
theorem dX6_setLoss_58 : decode cX6_setLoss 58 = .ok (.iconst 4, 1) := by decide +kernel
theorem dX6_setLoss_59 : decode cX6_setLoss 59 = .ok (.imul, 1) := by decide +kernel
theorem dX6_setLoss_60 : decode cX6_setLoss 60 = .ok (.iload_n 2, 1) := by decide +kernel
theorem dX6_setLoss_61 : decode cX6_setLoss 61 = .ok (.iadd, 1) := by decide +kernel
theorem dX6_setLoss_62 : decode cX6_setLoss 62 = .ok (.iload_n 3, 1) := by decide +kernel
theorem dX6_setLoss_63 : decode cX6_setLoss 63 = .ok (.iastore, 1) := by decide +kernel
theorem dX6_setLoss_64 : decode cX6_setLoss 64 = .ok (.aload_n 0, 1) := by decide +kernel
theorem dX6_setLoss_65 : decode cX6_setLoss 65 = .ok (.invokevirtual 102, 3) := by decide +kernel
theorem dX6_setLoss_68 : decode cX6_setLoss 68 = .ok (.ireturn, 1) := by decide +kernel
theorem dX6_setEmission_0 : decode cX6_setEmission 0 = .ok (.aload_n 0, 1) := by decide +kernel
theorem dX6_setEmission_1 : decode cX6_setEmission 1 = .ok (.getfield 46, 3) := by decide +kernel
theorem dX6_setEmission_4 : decode cX6_setEmission 4 = .ok (.getfield 88, 3) := by decide +kernel
theorem dX6_setEmission_7 : decode cX6_setEmission 7 = .ok (.ifCond .eq 6, 3) := by decide +kernel
theorem dX6_setEmission_10 : decode cX6_setEmission 10 = .ok (.bipush (-5), 2) := by decide +kernel
theorem dX6_setEmission_12 : decode cX6_setEmission 12 = .ok (.ireturn, 1) := by decide +kernel
theorem dX6_setEmission_13 : decode cX6_setEmission 13 = .ok (.iload_n 1, 1) := by decide +kernel
theorem dX6_setEmission_14 : decode cX6_setEmission 14 = .ok (.invokestatic 80, 3) := by decide +kernel
theorem dX6_setEmission_17 : decode cX6_setEmission 17 = .ok (.ifCond .eq 10, 3) := by decide +kernel
theorem dX6_setEmission_20 : decode cX6_setEmission 20 = .ok (.iload_n 2, 1) := by decide +kernel
theorem dX6_setEmission_21 : decode cX6_setEmission 21 = .ok (.invokestatic 128, 3) := by decide +kernel
theorem dX6_setEmission_24 : decode cX6_setEmission 24 = .ok (.ifCond .ne 5, 3) := by decide +kernel
theorem dX6_setEmission_27 : decode cX6_setEmission 27 = .ok (.iconst (-1), 1) := by decide +kernel
theorem dX6_setEmission_28 : decode cX6_setEmission 28 = .ok (.ireturn, 1) := by decide +kernel
theorem dX6_setEmission_29 : decode cX6_setEmission 29 = .ok (.iload_n 3, 1) := by decide +kernel
theorem dX6_setEmission_30 : decode cX6_setEmission 30 = .ok (.invokestatic 122, 3) := by decide +kernel
theorem dX6_setEmission_33 : decode cX6_setEmission 33 = .ok (.ifCond .ne 6, 3) := by decide +kernel
theorem dX6_setEmission_36 : decode cX6_setEmission 36 = .ok (.bipush (-2), 2) := by decide +kernel
theorem dX6_setEmission_38 : decode cX6_setEmission 38 = .ok (.ireturn, 1) := by decide +kernel
theorem dX6_setEmission_39 : decode cX6_setEmission 39 = .ok (.aload_n 0, 1) := by decide +kernel
theorem dX6_setEmission_40 : decode cX6_setEmission 40 = .ok (.getfield 53, 3) := by decide +kernel
theorem dX6_setEmission_43 : decode cX6_setEmission 43 = .ok (.aload_n 0, 1) := by decide +kernel
theorem dX6_setEmission_44 : decode cX6_setEmission 44 = .ok (.getfield 12, 3) := by decide +kernel
theorem dX6_setEmission_47 : decode cX6_setEmission 47 = .ok (.invokevirtual 95, 3) := by decide +kernel
theorem dX6_setEmission_50 : decode cX6_setEmission 50 = .ok (.aload_n 0, 1) := by decide +kernel
theorem dX6_setEmission_51 : decode cX6_setEmission 51 = .ok (.getfield 12, 3) := by decide +kernel
theorem dX6_setEmission_54 : decode cX6_setEmission 54 = .ok (.getfield 131, 3) := by decide +kernel
theorem dX6_setEmission_57 : decode cX6_setEmission 57 = .ok (.iload_n 1, 1) := by decide +kernel
theorem dX6_setEmission_58 : decode cX6_setEmission 58 = .ok (.iconst 4, 1) := by decide +kernel
theorem dX6_setEmission_59 : decode cX6_setEmission 59 = .ok (.imul, 1) := by decide +kernel
theorem dX6_setEmission_60 : decode cX6_setEmission 60 = .ok (.iload_n 2, 1) := by decide +kernel
theorem dX6_setEmission_61 : decode cX6_setEmission 61 = .ok (.iadd, 1) := by decide +kernel
theorem dX6_setEmission_62 : decode cX6_setEmission 62 = .ok (.iload_n 3, 1) := by decide +kernel
theorem dX6_setEmission_63 : decode cX6_setEmission 63 = .ok (.iastore, 1) := by decide +kernel
theorem dX6_setEmission_64 : decode cX6_setEmission 64 = .ok (.aload_n 0, 1) := by decide +kernel
theorem dX6_setEmission_65 : decode cX6_setEmission 65 = .ok (.invokevirtual 102, 3) := by decide +kernel
theorem dX6_setEmission_68 : decode cX6_setEmission 68 = .ok (.ireturn, 1) := by decide +kernel
theorem dX6_append_0 : decode cX6_append 0 = .ok (.aload_n 0, 1) := by decide +kernel
theorem dX6_append_1 : decode cX6_append 1 = .ok (.getfield 67, 3) := by decide +kernel
theorem dX6_append_4 : decode cX6_append 4 = .ok (.iload_n 1, 1) := by decide +kernel
theorem dX6_append_5 : decode cX6_append 5 = .ok (.invokevirtual 134, 3) := by decide +kernel
theorem dX6_append_8 : decode cX6_append 8 = .ok (.ireturn, 1) := by decide +kernel
theorem dX6_read_0 : decode cX6_read 0 = .ok (.aload_n 0, 1) := by decide +kernel
theorem dX6_read_1 : decode cX6_read 1 = .ok (.getfield 46, 3) := by decide +kernel
theorem dX6_read_4 : decode cX6_read 4 = .ok (.getfield 88, 3) := by decide +kernel
theorem dX6_read_7 : decode cX6_read 7 = .ok (.ifCond .eq 6, 3) := by decide +kernel
theorem dX6_read_10 : decode cX6_read 10 = .ok (.bipush (-5), 2) := by decide +kernel
theorem dX6_read_12 : decode cX6_read 12 = .ok (.ireturn, 1) := by decide +kernel
theorem dX6_read_13 : decode cX6_read 13 = .ok (.aload_n 0, 1) := by decide +kernel
theorem dX6_read_14 : decode cX6_read 14 = .ok (.getfield 67, 3) := by decide +kernel
theorem dX6_read_17 : decode cX6_read 17 = .ok (.invokevirtual 138, 3) := by decide +kernel
theorem dX6_read_20 : decode cX6_read 20 = .ok (.istore_n 1, 1) := by decide +kernel
theorem dX6_read_21 : decode cX6_read 21 = .ok (.iload_n 1, 1) := by decide +kernel
theorem dX6_read_22 : decode cX6_read 22 = .ok (.bipush (-4), 2) := by decide +kernel
theorem dX6_read_24 : decode cX6_read 24 = .ok (.if_icmp .ne 11, 3) := by decide +kernel
theorem dX6_read_27 : decode cX6_read 27 = .ok (.aload_n 0, 1) := by decide +kernel
theorem dX6_read_28 : decode cX6_read 28 = .ok (.getfield 67, 3) := by decide +kernel
theorem dX6_read_31 : decode cX6_read 31 = .ok (.invokevirtual 141, 3) := by decide +kernel
theorem dX6_read_34 : decode cX6_read 34 = .ok (.istore_n 1, 1) := by decide +kernel
theorem dX6_read_35 : decode cX6_read 35 = .ok (.aload_n 0, 1) := by decide +kernel
theorem dX6_read_36 : decode cX6_read 36 = .ok (.getfield 67, 3) := by decide +kernel
theorem dX6_read_39 : decode cX6_read 39 = .ok (.iconst 0, 1) := by decide +kernel
theorem dX6_read_40 : decode cX6_read 40 = .ok (.putfield 144, 3) := by decide +kernel
theorem dX6_read_43 : decode cX6_read 43 = .ok (.aload_n 0, 1) := by decide +kernel
theorem dX6_read_44 : decode cX6_read 44 = .ok (.iload_n 1, 1) := by decide +kernel
theorem dX6_read_45 : decode cX6_read 45 = .ok (.putfield 71, 3) := by decide +kernel
theorem dX6_read_48 : decode cX6_read 48 = .ok (.iload_n 1, 1) := by decide +kernel
theorem dX6_read_49 : decode cX6_read 49 = .ok (.bipush (-4), 2) := by decide +kernel
theorem dX6_read_51 : decode cX6_read 51 = .ok (.if_icmp .eq 6, 3) := by decide +kernel
theorem dX6_read_54 : decode cX6_read 54 = .ok (.bipush (-2), 2) := by decide +kernel
theorem dX6_read_56 : decode cX6_read 56 = .ok (.ireturn, 1) := by decide +kernel
theorem dX6_read_57 : decode cX6_read 57 = .ok (.aload_n 0, 1) := by decide +kernel
theorem dX6_read_58 : decode cX6_read 58 = .ok (.getfield 53, 3) := by decide +kernel
theorem dX6_read_61 : decode cX6_read 61 = .ok (.aload_n 0, 1) := by decide +kernel
theorem dX6_read_62 : decode cX6_read 62 = .ok (.getfield 12, 3) := by decide +kernel
theorem dX6_read_65 : decode cX6_read 65 = .ok (.invokevirtual 95, 3) := by decide +kernel
theorem dX6_read_68 : decode cX6_read 68 = .ok (.aload_n 0, 1) := by decide +kernel
theorem dX6_read_69 : decode cX6_read 69 = .ok (.getfield 67, 3) := by decide +kernel
theorem dX6_read_72 : decode cX6_read 72 = .ok (.aload_n 0, 1) := by decide +kernel
theorem dX6_read_73 : decode cX6_read 73 = .ok (.getfield 12, 3) := by decide +kernel
theorem dX6_read_76 : decode cX6_read 76 = .ok (.invokevirtual 147, 3) := by decide +kernel
theorem dX6_read_79 : decode cX6_read 79 = .ok (.aload_n 0, 1) := by decide +kernel
theorem dX6_read_80 : decode cX6_read 80 = .ok (.invokevirtual 102, 3) := by decide +kernel
theorem dX6_read_83 : decode cX6_read 83 = .ok (.pop, 1) := by decide +kernel
theorem dX6_read_84 : decode cX6_read 84 = .ok (.aload_n 0, 1) := by decide +kernel
theorem dX6_read_85 : decode cX6_read 85 = .ok (.getfield 67, 3) := by decide +kernel
theorem dX6_read_88 : decode cX6_read 88 = .ok (.getfield 150, 3) := by decide +kernel
theorem dX6_read_91 : decode cX6_read 91 = .ok (.ireturn, 1) := by decide +kernel
theorem dX6_faultPosition_0 : decode cX6_faultPosition 0 = .ok (.aload_n 0, 1) := by decide +kernel
theorem dX6_faultPosition_1 : decode cX6_faultPosition 1 = .ok (.getfield 71, 3) := by decide +kernel
theorem dX6_faultPosition_4 : decode cX6_faultPosition 4 = .ok (.ireturn, 1) := by decide +kernel
theorem dX6_undo_0 : decode cX6_undo 0 = .ok (.aload_n 0, 1) := by decide +kernel
theorem dX6_undo_1 : decode cX6_undo 1 = .ok (.getfield 46, 3) := by decide +kernel
theorem dX6_undo_4 : decode cX6_undo 4 = .ok (.getfield 88, 3) := by decide +kernel
theorem dX6_undo_7 : decode cX6_undo 7 = .ok (.ifCond .eq 6, 3) := by decide +kernel
theorem dX6_undo_10 : decode cX6_undo 10 = .ok (.bipush (-5), 2) := by decide +kernel
theorem dX6_undo_12 : decode cX6_undo 12 = .ok (.ireturn, 1) := by decide +kernel
theorem dX6_undo_13 : decode cX6_undo 13 = .ok (.aload_n 0, 1) := by decide +kernel
theorem dX6_undo_14 : decode cX6_undo 14 = .ok (.getfield 53, 3) := by decide +kernel
theorem dX6_undo_17 : decode cX6_undo 17 = .ok (.getfield 153, 3) := by decide +kernel
theorem dX6_undo_20 : decode cX6_undo 20 = .ok (.ifCond .ne 6, 3) := by decide +kernel
theorem dX6_undo_23 : decode cX6_undo 23 = .ok (.bipush (-4), 2) := by decide +kernel
theorem dX6_undo_25 : decode cX6_undo 25 = .ok (.ireturn, 1) := by decide +kernel
theorem dX6_undo_26 : decode cX6_undo 26 = .ok (.aload_n 0, 1) := by decide +kernel
theorem dX6_undo_27 : decode cX6_undo 27 = .ok (.getfield 53, 3) := by decide +kernel
theorem dX6_undo_30 : decode cX6_undo 30 = .ok (.aload_n 0, 1) := by decide +kernel
theorem dX6_undo_31 : decode cX6_undo 31 = .ok (.getfield 12, 3) := by decide +kernel
theorem dX6_undo_34 : decode cX6_undo 34 = .ok (.invokevirtual 154, 3) := by decide +kernel
theorem dX6_undo_37 : decode cX6_undo 37 = .ok (.aload_n 0, 1) := by decide +kernel
theorem dX6_undo_38 : decode cX6_undo 38 = .ok (.invokevirtual 102, 3) := by decide +kernel
theorem dX6_undo_41 : decode cX6_undo 41 = .ok (.pop, 1) := by decide +kernel
theorem dX6_undo_42 : decode cX6_undo 42 = .ok (.aload_n 0, 1) := by decide +kernel
theorem dX6_undo_43 : decode cX6_undo 43 = .ok (.getfield 53, 3) := by decide +kernel
theorem dX6_undo_46 : decode cX6_undo 46 = .ok (.getfield 153, 3) := by decide +kernel
theorem dX6_undo_49 : decode cX6_undo 49 = .ok (.ireturn, 1) := by decide +kernel
theorem dX6_type_0 : decode cX6_type 0 = .ok (.iload_n 1, 1) := by decide +kernel
theorem dX6_type_1 : decode cX6_type 1 = .ok (.iload_n 2, 1) := by decide +kernel
theorem dX6_type_2 : decode cX6_type 2 = .ok (.iload_n 3, 1) := by decide +kernel
theorem dX6_type_3 : decode cX6_type 3 = .ok (.invokestatic 74, 3) := by decide +kernel
theorem dX6_type_6 : decode cX6_type 6 = .ok (.ifCond .eq 20, 3) := by decide +kernel
theorem dX6_type_9 : decode cX6_type 9 = .ok (.aload_n 0, 1) := by decide +kernel
theorem dX6_type_10 : decode cX6_type 10 = .ok (.getfield 12, 3) := by decide +kernel
theorem dX6_type_13 : decode cX6_type 13 = .ok (.getfield 99, 3) := by decide +kernel
theorem dX6_type_16 : decode cX6_type 16 = .ok (.iload_n 1, 1) := by decide +kernel
theorem dX6_type_17 : decode cX6_type 17 = .ok (.iload_n 2, 1) := by decide +kernel
theorem dX6_type_18 : decode cX6_type 18 = .ok (.iload_n 3, 1) := by decide +kernel
theorem dX6_type_19 : decode cX6_type 19 = .ok (.invokestatic 84, 3) := by decide +kernel
theorem dX6_type_22 : decode cX6_type 22 = .ok (.iaload, 1) := by decide +kernel
theorem dX6_type_23 : decode cX6_type 23 = .ok (.goto 4, 3) := by decide +kernel
theorem dX6_type_26 : decode cX6_type 26 = .ok (.iconst (-1), 1) := by decide +kernel
theorem dX6_type_27 : decode cX6_type 27 = .ok (.ireturn, 1) := by decide +kernel
theorem dX6_loss_0 : decode cX6_loss 0 = .ok (.iload_n 1, 1) := by decide +kernel
theorem dX6_loss_1 : decode cX6_loss 1 = .ok (.invokestatic 80, 3) := by decide +kernel
theorem dX6_loss_4 : decode cX6_loss 4 = .ok (.ifCond .eq 26, 3) := by decide +kernel
theorem dX6_loss_7 : decode cX6_loss 7 = .ok (.iload_n 2, 1) := by decide +kernel
theorem dX6_loss_8 : decode cX6_loss 8 = .ok (.invokestatic 119, 3) := by decide +kernel
theorem dX6_loss_11 : decode cX6_loss 11 = .ok (.ifCond .eq 19, 3) := by decide +kernel
theorem dX6_loss_14 : decode cX6_loss 14 = .ok (.aload_n 0, 1) := by decide +kernel
theorem dX6_loss_15 : decode cX6_loss 15 = .ok (.getfield 12, 3) := by decide +kernel
theorem dX6_loss_18 : decode cX6_loss 18 = .ok (.getfield 125, 3) := by decide +kernel
theorem dX6_loss_21 : decode cX6_loss 21 = .ok (.iload_n 1, 1) := by decide +kernel
theorem dX6_loss_22 : decode cX6_loss 22 = .ok (.iconst 4, 1) := by decide +kernel
theorem dX6_loss_23 : decode cX6_loss 23 = .ok (.imul, 1) := by decide +kernel
theorem dX6_loss_24 : decode cX6_loss 24 = .ok (.iload_n 2, 1) := by decide +kernel
theorem dX6_loss_25 : decode cX6_loss 25 = .ok (.iadd, 1) := by decide +kernel
theorem dX6_loss_26 : decode cX6_loss 26 = .ok (.iaload, 1) := by decide +kernel
theorem dX6_loss_27 : decode cX6_loss 27 = .ok (.goto 4, 3) := by decide +kernel
theorem dX6_loss_30 : decode cX6_loss 30 = .ok (.iconst (-1), 1) := by decide +kernel
theorem dX6_loss_31 : decode cX6_loss 31 = .ok (.ireturn, 1) := by decide +kernel
theorem dX6_emission_0 : decode cX6_emission 0 = .ok (.iload_n 1, 1) := by decide +kernel
theorem dX6_emission_1 : decode cX6_emission 1 = .ok (.invokestatic 80, 3) := by decide +kernel
theorem dX6_emission_4 : decode cX6_emission 4 = .ok (.ifCond .eq 26, 3) := by decide +kernel
theorem dX6_emission_7 : decode cX6_emission 7 = .ok (.iload_n 2, 1) := by decide +kernel
theorem dX6_emission_8 : decode cX6_emission 8 = .ok (.invokestatic 128, 3) := by decide +kernel
theorem dX6_emission_11 : decode cX6_emission 11 = .ok (.ifCond .eq 19, 3) := by decide +kernel
theorem dX6_emission_14 : decode cX6_emission 14 = .ok (.aload_n 0, 1) := by decide +kernel
theorem dX6_emission_15 : decode cX6_emission 15 = .ok (.getfield 12, 3) := by decide +kernel
theorem dX6_emission_18 : decode cX6_emission 18 = .ok (.getfield 131, 3) := by decide +kernel
theorem dX6_emission_21 : decode cX6_emission 21 = .ok (.iload_n 1, 1) := by decide +kernel
theorem dX6_emission_22 : decode cX6_emission 22 = .ok (.iconst 4, 1) := by decide +kernel
theorem dX6_emission_23 : decode cX6_emission 23 = .ok (.imul, 1) := by decide +kernel
theorem dX6_emission_24 : decode cX6_emission 24 = .ok (.iload_n 2, 1) := by decide +kernel
theorem dX6_emission_25 : decode cX6_emission 25 = .ok (.iadd, 1) := by decide +kernel
theorem dX6_emission_26 : decode cX6_emission 26 = .ok (.iaload, 1) := by decide +kernel
theorem dX6_emission_27 : decode cX6_emission 27 = .ok (.goto 4, 3) := by decide +kernel
theorem dX6_emission_30 : decode cX6_emission 30 = .ok (.iconst (-1), 1) := by decide +kernel
theorem dX6_emission_31 : decode cX6_emission 31 = .ok (.ireturn, 1) := by decide +kernel
theorem dX6_light_0 : decode cX6_light 0 = .ok (.iload_n 1, 1) := by decide +kernel
theorem dX6_light_1 : decode cX6_light 1 = .ok (.iload_n 2, 1) := by decide +kernel
theorem dX6_light_2 : decode cX6_light 2 = .ok (.iload_n 3, 1) := by decide +kernel
theorem dX6_light_3 : decode cX6_light 3 = .ok (.invokestatic 74, 3) := by decide +kernel
theorem dX6_light_6 : decode cX6_light 6 = .ok (.ifCond .eq 28, 3) := by decide +kernel
theorem dX6_light_9 : decode cX6_light 9 = .ok (.iload 4, 2) := by decide +kernel
theorem dX6_light_11 : decode cX6_light 11 = .ok (.invokestatic 119, 3) := by decide +kernel
theorem dX6_light_14 : decode cX6_light 14 = .ok (.ifCond .eq 20, 3) := by decide +kernel
theorem dX6_light_17 : decode cX6_light 17 = .ok (.aload_n 0, 1) := by decide +kernel
theorem dX6_light_18 : decode cX6_light 18 = .ok (.getfield 18, 3) := by decide +kernel
theorem dX6_light_21 : decode cX6_light 21 = .ok (.iload 4, 2) := by decide +kernel
theorem dX6_light_23 : decode cX6_light 23 = .ok (.aaload, 1) := by decide +kernel
theorem dX6_light_24 : decode cX6_light 24 = .ok (.iload_n 1, 1) := by decide +kernel
theorem dX6_light_25 : decode cX6_light 25 = .ok (.iload_n 2, 1) := by decide +kernel
theorem dX6_light_26 : decode cX6_light 26 = .ok (.iload_n 3, 1) := by decide +kernel
theorem dX6_light_27 : decode cX6_light 27 = .ok (.invokestatic 84, 3) := by decide +kernel
theorem dX6_light_30 : decode cX6_light 30 = .ok (.iaload, 1) := by decide +kernel
theorem dX6_light_31 : decode cX6_light 31 = .ok (.goto 4, 3) := by decide +kernel
theorem dX6_light_34 : decode cX6_light 34 = .ok (.iconst (-1), 1) := by decide +kernel
theorem dX6_light_35 : decode cX6_light 35 = .ok (.ireturn, 1) := by decide +kernel
theorem dX6_lights_0 : decode cX6_lights 0 = .ok (.iload_n 1, 1) := by decide +kernel
theorem dX6_lights_1 : decode cX6_lights 1 = .ok (.iload_n 2, 1) := by decide +kernel
theorem dX6_lights_2 : decode cX6_lights 2 = .ok (.iload_n 3, 1) := by decide +kernel
theorem dX6_lights_3 : decode cX6_lights 3 = .ok (.invokestatic 74, 3) := by decide +kernel
theorem dX6_lights_6 : decode cX6_lights 6 = .ok (.ifCond .eq 16, 3) := by decide +kernel
theorem dX6_lights_9 : decode cX6_lights 9 = .ok (.aload_n 0, 1) := by decide +kernel
theorem dX6_lights_10 : decode cX6_lights 10 = .ok (.iload_n 1, 1) := by decide +kernel
theorem dX6_lights_11 : decode cX6_lights 11 = .ok (.iload_n 2, 1) := by decide +kernel
theorem dX6_lights_12 : decode cX6_lights 12 = .ok (.iload_n 3, 1) := by decide +kernel
theorem dX6_lights_13 : decode cX6_lights 13 = .ok (.invokestatic 84, 3) := by decide +kernel
theorem dX6_lights_16 : decode cX6_lights 16 = .ok (.invokevirtual 157, 3) := by decide +kernel
theorem dX6_lights_19 : decode cX6_lights 19 = .ok (.goto 4, 3) := by decide +kernel
theorem dX6_lights_22 : decode cX6_lights 22 = .ok (.iconst (-1), 1) := by decide +kernel
theorem dX6_lights_23 : decode cX6_lights 23 = .ok (.ireturn, 1) := by decide +kernel
theorem dX6_origin_0 : decode cX6_origin 0 = .ok (.iload_n 1, 1) := by decide +kernel
theorem dX6_origin_1 : decode cX6_origin 1 = .ok (.iload_n 2, 1) := by decide +kernel
theorem dX6_origin_2 : decode cX6_origin 2 = .ok (.iload_n 3, 1) := by decide +kernel
theorem dX6_origin_3 : decode cX6_origin 3 = .ok (.invokestatic 74, 3) := by decide +kernel
theorem dX6_origin_6 : decode cX6_origin 6 = .ok (.ifCond .eq 11, 3) := by decide +kernel
theorem dX6_origin_9 : decode cX6_origin 9 = .ok (.iload 4, 2) := by decide +kernel
theorem dX6_origin_11 : decode cX6_origin 11 = .ok (.invokestatic 119, 3) := by decide +kernel
theorem dX6_origin_14 : decode cX6_origin 14 = .ok (.ifCond .ne 5, 3) := by decide +kernel
theorem dX6_origin_17 : decode cX6_origin 17 = .ok (.iconst (-1), 1) := by decide +kernel
theorem dX6_origin_18 : decode cX6_origin 18 = .ok (.ireturn, 1) := by decide +kernel
theorem dX6_origin_19 : decode cX6_origin 19 = .ok (.aload_n 0, 1) := by decide +kernel
theorem dX6_origin_20 : decode cX6_origin 20 = .ok (.iload_n 1, 1) := by decide +kernel
theorem dX6_origin_21 : decode cX6_origin 21 = .ok (.iload_n 2, 1) := by decide +kernel
theorem dX6_origin_22 : decode cX6_origin 22 = .ok (.iload_n 3, 1) := by decide +kernel
theorem dX6_origin_23 : decode cX6_origin 23 = .ok (.invokestatic 84, 3) := by decide +kernel
theorem dX6_origin_26 : decode cX6_origin 26 = .ok (.iload 4, 2) := by decide +kernel
theorem dX6_origin_28 : decode cX6_origin 28 = .ok (.invokevirtual 160, 3) := by decide +kernel
theorem dX6_origin_31 : decode cX6_origin 31 = .ok (.ireturn, 1) := by decide +kernel
theorem dX6_wayLength_0 : decode cX6_wayLength 0 = .ok (.iload_n 1, 1) := by decide +kernel
theorem dX6_wayLength_1 : decode cX6_wayLength 1 = .ok (.iload_n 2, 1) := by decide +kernel
theorem dX6_wayLength_2 : decode cX6_wayLength 2 = .ok (.iload_n 3, 1) := by decide +kernel
theorem dX6_wayLength_3 : decode cX6_wayLength 3 = .ok (.invokestatic 74, 3) := by decide +kernel
theorem dX6_wayLength_6 : decode cX6_wayLength 6 = .ok (.ifCond .eq 11, 3) := by decide +kernel
theorem dX6_wayLength_9 : decode cX6_wayLength 9 = .ok (.iload 4, 2) := by decide +kernel
theorem dX6_wayLength_11 : decode cX6_wayLength 11 = .ok (.invokestatic 119, 3) := by decide +kernel
theorem dX6_wayLength_14 : decode cX6_wayLength 14 = .ok (.ifCond .ne 5, 3) := by decide +kernel
theorem dX6_wayLength_17 : decode cX6_wayLength 17 = .ok (.iconst (-1), 1) := by decide +kernel
theorem dX6_wayLength_18 : decode cX6_wayLength 18 = .ok (.ireturn, 1) := by decide +kernel
theorem dX6_wayLength_19 : decode cX6_wayLength 19 = .ok (.iload_n 1, 1) := by decide +kernel
theorem dX6_wayLength_20 : decode cX6_wayLength 20 = .ok (.iload_n 2, 1) := by decide +kernel
theorem dX6_wayLength_21 : decode cX6_wayLength 21 = .ok (.iload_n 3, 1) := by decide +kernel
theorem dX6_wayLength_22 : decode cX6_wayLength 22 = .ok (.invokestatic 84, 3) := by decide +kernel
theorem dX6_wayLength_25 : decode cX6_wayLength 25 = .ok (.istore 5, 2) := by decide +kernel
theorem dX6_wayLength_27 : decode cX6_wayLength 27 = .ok (.aload_n 0, 1) := by decide +kernel
theorem dX6_wayLength_28 : decode cX6_wayLength 28 = .ok (.getfield 18, 3) := by decide +kernel
theorem dX6_wayLength_31 : decode cX6_wayLength 31 = .ok (.iload 4, 2) := by decide +kernel
theorem dX6_wayLength_33 : decode cX6_wayLength 33 = .ok (.aaload, 1) := by decide +kernel
theorem dX6_wayLength_34 : decode cX6_wayLength 34 = .ok (.iload 5, 2) := by decide +kernel
theorem dX6_wayLength_36 : decode cX6_wayLength 36 = .ok (.iaload, 1) := by decide +kernel
theorem dX6_wayLength_37 : decode cX6_wayLength 37 = .ok (.ifCond .ne 6, 3) := by decide +kernel
theorem dX6_wayLength_40 : decode cX6_wayLength 40 = .ok (.bipush (-4), 2) := by decide +kernel
theorem dX6_wayLength_42 : decode cX6_wayLength 42 = .ok (.ireturn, 1) := by decide +kernel
theorem dX6_wayLength_43 : decode cX6_wayLength 43 = .ok (.iconst 0, 1) := by decide +kernel
theorem dX6_wayLength_44 : decode cX6_wayLength 44 = .ok (.istore 6, 2) := by decide +kernel
theorem dX6_wayLength_46 : decode cX6_wayLength 46 = .ok (.aload_n 0, 1) := by decide +kernel
theorem dX6_wayLength_47 : decode cX6_wayLength 47 = .ok (.iload 5, 2) := by decide +kernel
theorem dX6_wayLength_49 : decode cX6_wayLength 49 = .ok (.iload 4, 2) := by decide +kernel
theorem dX6_wayLength_51 : decode cX6_wayLength 51 = .ok (.invokevirtual 163, 3) := by decide +kernel
theorem dX6_wayLength_54 : decode cX6_wayLength 54 = .ok (.istore 7, 2) := by decide +kernel
theorem dX6_wayLength_56 : decode cX6_wayLength 56 = .ok (.iload 7, 2) := by decide +kernel
theorem dX6_wayLength_58 : decode cX6_wayLength 58 = .ok (.iconst (-1), 1) := by decide +kernel
theorem dX6_wayLength_59 : decode cX6_wayLength 59 = .ok (.if_icmp .eq 27, 3) := by decide +kernel
theorem dX6_wayLength_62 : decode cX6_wayLength 62 = .ok (.iload 6, 2) := by decide +kernel
theorem dX6_wayLength_64 : decode cX6_wayLength 64 = .ok (.sipush 1152, 3) := by decide +kernel
theorem dX6_wayLength_67 : decode cX6_wayLength 67 = .ok (.if_icmp .ge 19, 3) := by decide +kernel
theorem dX6_wayLength_70 : decode cX6_wayLength 70 = .ok (.iinc 6 1, 3) := by decide +kernel
theorem dX6_wayLength_73 : decode cX6_wayLength 73 = .ok (.aload_n 0, 1) := by decide +kernel
theorem dX6_wayLength_74 : decode cX6_wayLength 74 = .ok (.iload 7, 2) := by decide +kernel
theorem dX6_wayLength_76 : decode cX6_wayLength 76 = .ok (.iload 4, 2) := by decide +kernel
theorem dX6_wayLength_78 : decode cX6_wayLength 78 = .ok (.invokevirtual 163, 3) := by decide +kernel
theorem dX6_wayLength_81 : decode cX6_wayLength 81 = .ok (.istore 7, 2) := by decide +kernel
theorem dX6_wayLength_83 : decode cX6_wayLength 83 = .ok (.goto (-27), 3) := by decide +kernel
theorem dX6_wayLength_86 : decode cX6_wayLength 86 = .ok (.iload 6, 2) := by decide +kernel
theorem dX6_wayLength_88 : decode cX6_wayLength 88 = .ok (.ireturn, 1) := by decide +kernel
theorem dX6_wayEnd_0 : decode cX6_wayEnd 0 = .ok (.iload_n 1, 1) := by decide +kernel
theorem dX6_wayEnd_1 : decode cX6_wayEnd 1 = .ok (.iload_n 2, 1) := by decide +kernel
theorem dX6_wayEnd_2 : decode cX6_wayEnd 2 = .ok (.iload_n 3, 1) := by decide +kernel
theorem dX6_wayEnd_3 : decode cX6_wayEnd 3 = .ok (.invokestatic 74, 3) := by decide +kernel
theorem dX6_wayEnd_6 : decode cX6_wayEnd 6 = .ok (.ifCond .eq 11, 3) := by decide +kernel
theorem dX6_wayEnd_9 : decode cX6_wayEnd 9 = .ok (.iload 4, 2) := by decide +kernel
theorem dX6_wayEnd_11 : decode cX6_wayEnd 11 = .ok (.invokestatic 119, 3) := by decide +kernel
theorem dX6_wayEnd_14 : decode cX6_wayEnd 14 = .ok (.ifCond .ne 5, 3) := by decide +kernel
theorem dX6_wayEnd_17 : decode cX6_wayEnd 17 = .ok (.iconst (-1), 1) := by decide +kernel
theorem dX6_wayEnd_18 : decode cX6_wayEnd 18 = .ok (.ireturn, 1) := by decide +kernel
theorem dX6_wayEnd_19 : decode cX6_wayEnd 19 = .ok (.iload_n 1, 1) := by decide +kernel
theorem dX6_wayEnd_20 : decode cX6_wayEnd 20 = .ok (.iload_n 2, 1) := by decide +kernel
theorem dX6_wayEnd_21 : decode cX6_wayEnd 21 = .ok (.iload_n 3, 1) := by decide +kernel
theorem dX6_wayEnd_22 : decode cX6_wayEnd 22 = .ok (.invokestatic 84, 3) := by decide +kernel
theorem dX6_wayEnd_25 : decode cX6_wayEnd 25 = .ok (.istore 5, 2) := by decide +kernel
theorem dX6_wayEnd_27 : decode cX6_wayEnd 27 = .ok (.aload_n 0, 1) := by decide +kernel
theorem dX6_wayEnd_28 : decode cX6_wayEnd 28 = .ok (.getfield 18, 3) := by decide +kernel
theorem dX6_wayEnd_31 : decode cX6_wayEnd 31 = .ok (.iload 4, 2) := by decide +kernel
theorem dX6_wayEnd_33 : decode cX6_wayEnd 33 = .ok (.aaload, 1) := by decide +kernel
theorem dX6_wayEnd_34 : decode cX6_wayEnd 34 = .ok (.iload 5, 2) := by decide +kernel
theorem dX6_wayEnd_36 : decode cX6_wayEnd 36 = .ok (.iaload, 1) := by decide +kernel
theorem dX6_wayEnd_37 : decode cX6_wayEnd 37 = .ok (.ifCond .ne 6, 3) := by decide +kernel
theorem dX6_wayEnd_40 : decode cX6_wayEnd 40 = .ok (.bipush (-4), 2) := by decide +kernel
theorem dX6_wayEnd_42 : decode cX6_wayEnd 42 = .ok (.ireturn, 1) := by decide +kernel
theorem dX6_wayEnd_43 : decode cX6_wayEnd 43 = .ok (.iload 5, 2) := by decide +kernel
theorem dX6_wayEnd_45 : decode cX6_wayEnd 45 = .ok (.istore 6, 2) := by decide +kernel
theorem dX6_wayEnd_47 : decode cX6_wayEnd 47 = .ok (.aload_n 0, 1) := by decide +kernel
theorem dX6_wayEnd_48 : decode cX6_wayEnd 48 = .ok (.iload 5, 2) := by decide +kernel
theorem dX6_wayEnd_50 : decode cX6_wayEnd 50 = .ok (.iload 4, 2) := by decide +kernel
theorem dX6_wayEnd_52 : decode cX6_wayEnd 52 = .ok (.invokevirtual 163, 3) := by decide +kernel
theorem dX6_wayEnd_55 : decode cX6_wayEnd 55 = .ok (.istore 7, 2) := by decide +kernel
theorem dX6_wayEnd_57 : decode cX6_wayEnd 57 = .ok (.iconst 0, 1) := by decide +kernel
theorem dX6_wayEnd_58 : decode cX6_wayEnd 58 = .ok (.istore 8, 2) := by decide +kernel
theorem dX6_wayEnd_60 : decode cX6_wayEnd 60 = .ok (.iload 7, 2) := by decide +kernel
theorem dX6_wayEnd_62 : decode cX6_wayEnd 62 = .ok (.iconst (-1), 1) := by decide +kernel
theorem dX6_wayEnd_63 : decode cX6_wayEnd 63 = .ok (.if_icmp .eq 31, 3) := by decide +kernel
theorem dX6_wayEnd_66 : decode cX6_wayEnd 66 = .ok (.iload 8, 2) := by decide +kernel
theorem dX6_wayEnd_68 : decode cX6_wayEnd 68 = .ok (.sipush 1152, 3) := by decide +kernel
theorem dX6_wayEnd_71 : decode cX6_wayEnd 71 = .ok (.if_icmp .ge 23, 3) := by decide +kernel
theorem dX6_wayEnd_74 : decode cX6_wayEnd 74 = .ok (.iload 7, 2) := by decide +kernel
theorem dX6_wayEnd_76 : decode cX6_wayEnd 76 = .ok (.istore 6, 2) := by decide +kernel
theorem dX6_wayEnd_78 : decode cX6_wayEnd 78 = .ok (.aload_n 0, 1) := by decide +kernel
theorem dX6_wayEnd_79 : decode cX6_wayEnd 79 = .ok (.iload 7, 2) := by decide +kernel
theorem dX6_wayEnd_81 : decode cX6_wayEnd 81 = .ok (.iload 4, 2) := by decide +kernel
theorem dX6_wayEnd_83 : decode cX6_wayEnd 83 = .ok (.invokevirtual 163, 3) := by decide +kernel
theorem dX6_wayEnd_86 : decode cX6_wayEnd 86 = .ok (.istore 7, 2) := by decide +kernel
theorem dX6_wayEnd_88 : decode cX6_wayEnd 88 = .ok (.iinc 8 1, 3) := by decide +kernel
theorem dX6_wayEnd_91 : decode cX6_wayEnd 91 = .ok (.goto (-31), 3) := by decide +kernel
theorem dX6_wayEnd_94 : decode cX6_wayEnd 94 = .ok (.iload 6, 2) := by decide +kernel
theorem dX6_wayEnd_96 : decode cX6_wayEnd 96 = .ok (.invokestatic 166, 3) := by decide +kernel
theorem dX6_wayEnd_99 : decode cX6_wayEnd 99 = .ok (.ireturn, 1) := by decide +kernel
theorem dX6_batchSize_0 : decode cX6_batchSize 0 = .ok (.aload_n 0, 1) := by decide +kernel
theorem dX6_batchSize_1 : decode cX6_batchSize 1 = .ok (.getfield 46, 3) := by decide +kernel
theorem dX6_batchSize_4 : decode cX6_batchSize 4 = .ok (.getfield 88, 3) := by decide +kernel
theorem dX6_batchSize_7 : decode cX6_batchSize 7 = .ok (.ifCond .eq 13, 3) := by decide +kernel
theorem dX6_batchSize_10 : decode cX6_batchSize 10 = .ok (.aload_n 0, 1) := by decide +kernel
theorem dX6_batchSize_11 : decode cX6_batchSize 11 = .ok (.getfield 46, 3) := by decide +kernel
theorem dX6_batchSize_14 : decode cX6_batchSize 14 = .ok (.getfield 112, 3) := by decide +kernel
theorem dX6_batchSize_17 : decode cX6_batchSize 17 = .ok (.goto 5, 3) := by decide +kernel
theorem dX6_batchSize_20 : decode cX6_batchSize 20 = .ok (.bipush (-5), 2) := by decide +kernel
theorem dX6_batchSize_22 : decode cX6_batchSize 22 = .ok (.ireturn, 1) := by decide +kernel
theorem dX6_effect_0 : decode cX6_effect 0 = .ok (.iload_n 1, 1) := by decide +kernel
theorem dX6_effect_1 : decode cX6_effect 1 = .ok (.iconst (-1), 1) := by decide +kernel
theorem dX6_effect_2 : decode cX6_effect 2 = .ok (.if_icmp .ge 6, 3) := by decide +kernel
theorem dX6_effect_5 : decode cX6_effect 5 = .ok (.bipush (-2), 2) := by decide +kernel
theorem dX6_effect_7 : decode cX6_effect 7 = .ok (.ireturn, 1) := by decide +kernel
theorem dX6_effect_8 : decode cX6_effect 8 = .ok (.iload_n 1, 1) := by decide +kernel
theorem dX6_effect_9 : decode cX6_effect 9 = .ok (.iconst (-1), 1) := by decide +kernel
theorem dX6_effect_10 : decode cX6_effect 10 = .ok (.if_icmp .ne 8, 3) := by decide +kernel
theorem dX6_effect_13 : decode cX6_effect 13 = .ok (.aload_n 0, 1) := by decide +kernel
theorem dX6_effect_14 : decode cX6_effect 14 = .ok (.getfield 39, 3) := by decide +kernel
theorem dX6_effect_17 : decode cX6_effect 17 = .ok (.ireturn, 1) := by decide +kernel
theorem dX6_effect_18 : decode cX6_effect 18 = .ok (.iload_n 1, 1) := by decide +kernel
theorem dX6_effect_19 : decode cX6_effect 19 = .ok (.istore_n 2, 1) := by decide +kernel
theorem dX6_effect_20 : decode cX6_effect 20 = .ok (.iconst 0, 1) := by decide +kernel
theorem dX6_effect_21 : decode cX6_effect 21 = .ok (.istore_n 3, 1) := by decide +kernel
theorem dX6_effect_22 : decode cX6_effect 22 = .ok (.iload_n 3, 1) := by decide +kernel
theorem dX6_effect_23 : decode cX6_effect 23 = .ok (.sipush 1152, 3) := by decide +kernel
theorem dX6_effect_26 : decode cX6_effect 26 = .ok (.if_icmp .ge 30, 3) := by decide +kernel
theorem dX6_effect_29 : decode cX6_effect 29 = .ok (.aload_n 0, 1) := by decide +kernel
theorem dX6_effect_30 : decode cX6_effect 30 = .ok (.getfield 35, 3) := by decide +kernel
theorem dX6_effect_33 : decode cX6_effect 33 = .ok (.iload_n 3, 1) := by decide +kernel
theorem dX6_effect_34 : decode cX6_effect 34 = .ok (.baload, 1) := by decide +kernel
theorem dX6_effect_35 : decode cX6_effect 35 = .ok (.ifCond .eq 15, 3) := by decide +kernel
theorem dX6_effect_38 : decode cX6_effect 38 = .ok (.iload_n 2, 1) := by decide +kernel
theorem dX6_effect_39 : decode cX6_effect 39 = .ok (.ifCond .ne 8, 3) := by decide +kernel
theorem dX6_effect_42 : decode cX6_effect 42 = .ok (.iload_n 3, 1) := by decide +kernel
theorem dX6_effect_43 : decode cX6_effect 43 = .ok (.invokestatic 166, 3) := by decide +kernel
theorem dX6_effect_46 : decode cX6_effect 46 = .ok (.ireturn, 1) := by decide +kernel
theorem dX6_effect_47 : decode cX6_effect 47 = .ok (.iinc 2 (-1), 3) := by decide +kernel
theorem dX6_effect_50 : decode cX6_effect 50 = .ok (.iinc 3 1, 3) := by decide +kernel
theorem dX6_effect_53 : decode cX6_effect 53 = .ok (.goto (-31), 3) := by decide +kernel
theorem dX6_effect_56 : decode cX6_effect 56 = .ok (.bipush (-4), 2) := by decide +kernel
theorem dX6_effect_58 : decode cX6_effect 58 = .ok (.ireturn, 1) := by decide +kernel
theorem dX6_effectChunks_0 : decode cX6_effectChunks 0 = .ok (.iconst 0, 1) := by decide +kernel
theorem dX6_effectChunks_1 : decode cX6_effectChunks 1 = .ok (.istore_n 1, 1) := by decide +kernel
theorem dX6_effectChunks_2 : decode cX6_effectChunks 2 = .ok (.iconst 0, 1) := by decide +kernel
theorem dX6_effectChunks_3 : decode cX6_effectChunks 3 = .ok (.istore_n 2, 1) := by decide +kernel
theorem dX6_effectChunks_4 : decode cX6_effectChunks 4 = .ok (.iload_n 2, 1) := by decide +kernel
theorem dX6_effectChunks_5 : decode cX6_effectChunks 5 = .ok (.sipush 1152, 3) := by decide +kernel
theorem dX6_effectChunks_8 : decode cX6_effectChunks 8 = .ok (.if_icmp .ge 27, 3) := by decide +kernel
theorem dX6_effectChunks_11 : decode cX6_effectChunks 11 = .ok (.aload_n 0, 1) := by decide +kernel
theorem dX6_effectChunks_12 : decode cX6_effectChunks 12 = .ok (.getfield 35, 3) := by decide +kernel
theorem dX6_effectChunks_15 : decode cX6_effectChunks 15 = .ok (.iload_n 2, 1) := by decide +kernel
theorem dX6_effectChunks_16 : decode cX6_effectChunks 16 = .ok (.baload, 1) := by decide +kernel
theorem dX6_effectChunks_17 : decode cX6_effectChunks 17 = .ok (.ifCond .eq 12, 3) := by decide +kernel
theorem dX6_effectChunks_20 : decode cX6_effectChunks 20 = .ok (.iload_n 1, 1) := by decide +kernel
theorem dX6_effectChunks_21 : decode cX6_effectChunks 21 = .ok (.iconst 1, 1) := by decide +kernel
theorem dX6_effectChunks_22 : decode cX6_effectChunks 22 = .ok (.iload_n 2, 1) := by decide +kernel
theorem dX6_effectChunks_23 : decode cX6_effectChunks 23 = .ok (.invokestatic 169, 3) := by decide +kernel
theorem dX6_effectChunks_26 : decode cX6_effectChunks 26 = .ok (.ishl, 1) := by decide +kernel
theorem dX6_effectChunks_27 : decode cX6_effectChunks 27 = .ok (.ior, 1) := by decide +kernel
theorem dX6_effectChunks_28 : decode cX6_effectChunks 28 = .ok (.istore_n 1, 1) := by decide +kernel
theorem dX6_effectChunks_29 : decode cX6_effectChunks 29 = .ok (.iinc 2 1, 3) := by decide +kernel
theorem dX6_effectChunks_32 : decode cX6_effectChunks 32 = .ok (.goto (-28), 3) := by decide +kernel
theorem dX6_effectChunks_35 : decode cX6_effectChunks 35 = .ok (.iload_n 1, 1) := by decide +kernel
theorem dX6_effectChunks_36 : decode cX6_effectChunks 36 = .ok (.ireturn, 1) := by decide +kernel
theorem dX6_lightIf_0 : decode cX6_lightIf 0 = .ok (.iload_n 1, 1) := by decide +kernel
theorem dX6_lightIf_1 : decode cX6_lightIf 1 = .ok (.iload_n 2, 1) := by decide +kernel
theorem dX6_lightIf_2 : decode cX6_lightIf 2 = .ok (.iload_n 3, 1) := by decide +kernel
theorem dX6_lightIf_3 : decode cX6_lightIf 3 = .ok (.invokestatic 74, 3) := by decide +kernel
theorem dX6_lightIf_6 : decode cX6_lightIf 6 = .ok (.ifCond .eq 19, 3) := by decide +kernel
theorem dX6_lightIf_9 : decode cX6_lightIf 9 = .ok (.iload 4, 2) := by decide +kernel
theorem dX6_lightIf_11 : decode cX6_lightIf 11 = .ok (.invokestatic 80, 3) := by decide +kernel
theorem dX6_lightIf_14 : decode cX6_lightIf 14 = .ok (.ifCond .eq 11, 3) := by decide +kernel
theorem dX6_lightIf_17 : decode cX6_lightIf 17 = .ok (.iload 5, 2) := by decide +kernel
theorem dX6_lightIf_19 : decode cX6_lightIf 19 = .ok (.invokestatic 119, 3) := by decide +kernel
theorem dX6_lightIf_22 : decode cX6_lightIf 22 = .ok (.ifCond .ne 5, 3) := by decide +kernel
theorem dX6_lightIf_25 : decode cX6_lightIf 25 = .ok (.iconst (-1), 1) := by decide +kernel
theorem dX6_lightIf_26 : decode cX6_lightIf 26 = .ok (.ireturn, 1) := by decide +kernel
theorem dX6_lightIf_27 : decode cX6_lightIf 27 = .ok (.iload_n 1, 1) := by decide +kernel
theorem dX6_lightIf_28 : decode cX6_lightIf 28 = .ok (.iload_n 2, 1) := by decide +kernel
theorem dX6_lightIf_29 : decode cX6_lightIf 29 = .ok (.iload_n 3, 1) := by decide +kernel
theorem dX6_lightIf_30 : decode cX6_lightIf 30 = .ok (.invokestatic 84, 3) := by decide +kernel
theorem dX6_lightIf_33 : decode cX6_lightIf 33 = .ok (.istore 6, 2) := by decide +kernel
theorem dX6_lightIf_35 : decode cX6_lightIf 35 = .ok (.aload_n 0, 1) := by decide +kernel
theorem dX6_lightIf_36 : decode cX6_lightIf 36 = .ok (.getfield 12, 3) := by decide +kernel
theorem dX6_lightIf_39 : decode cX6_lightIf 39 = .ok (.getfield 99, 3) := by decide +kernel
theorem dX6_lightIf_42 : decode cX6_lightIf 42 = .ok (.iload 6, 2) := by decide +kernel
theorem dX6_lightIf_44 : decode cX6_lightIf 44 = .ok (.iaload, 1) := by decide +kernel
theorem dX6_lightIf_45 : decode cX6_lightIf 45 = .ok (.istore 7, 2) := by decide +kernel
theorem dX6_lightIf_47 : decode cX6_lightIf 47 = .ok (.aload_n 0, 1) := by decide +kernel
theorem dX6_lightIf_48 : decode cX6_lightIf 48 = .ok (.getfield 12, 3) := by decide +kernel
theorem dX6_lightIf_51 : decode cX6_lightIf 51 = .ok (.getfield 99, 3) := by decide +kernel
theorem dX6_lightIf_54 : decode cX6_lightIf 54 = .ok (.iload 6, 2) := by decide +kernel
theorem dX6_lightIf_56 : decode cX6_lightIf 56 = .ok (.iload 4, 2) := by decide +kernel
theorem dX6_lightIf_58 : decode cX6_lightIf 58 = .ok (.iastore, 1) := by decide +kernel
theorem dX6_lightIf_59 : decode cX6_lightIf 59 = .ok (.aload_n 0, 1) := by decide +kernel
theorem dX6_lightIf_60 : decode cX6_lightIf 60 = .ok (.getfield 24, 3) := by decide +kernel
theorem dX6_lightIf_63 : decode cX6_lightIf 63 = .ok (.aload_n 0, 1) := by decide +kernel
theorem dX6_lightIf_64 : decode cX6_lightIf 64 = .ok (.getfield 12, 3) := by decide +kernel
theorem dX6_lightIf_67 : decode cX6_lightIf 67 = .ok (.iload 5, 2) := by decide +kernel
theorem dX6_lightIf_69 : decode cX6_lightIf 69 = .ok (.iconst (-1), 1) := by decide +kernel
theorem dX6_lightIf_70 : decode cX6_lightIf 70 = .ok (.aload_n 0, 1) := by decide +kernel
theorem dX6_lightIf_71 : decode cX6_lightIf 71 = .ok (.getfield 28, 3) := by decide +kernel
theorem dX6_lightIf_74 : decode cX6_lightIf 74 = .ok (.invokevirtual 172, 3) := by decide +kernel
theorem dX6_lightIf_77 : decode cX6_lightIf 77 = .ok (.aload_n 0, 1) := by decide +kernel
theorem dX6_lightIf_78 : decode cX6_lightIf 78 = .ok (.getfield 12, 3) := by decide +kernel
theorem dX6_lightIf_81 : decode cX6_lightIf 81 = .ok (.getfield 99, 3) := by decide +kernel
theorem dX6_lightIf_84 : decode cX6_lightIf 84 = .ok (.iload 6, 2) := by decide +kernel
theorem dX6_lightIf_86 : decode cX6_lightIf 86 = .ok (.iload 7, 2) := by decide +kernel
theorem dX6_lightIf_88 : decode cX6_lightIf 88 = .ok (.iastore, 1) := by decide +kernel
theorem dX6_lightIf_89 : decode cX6_lightIf 89 = .ok (.iconst 0, 1) := by decide +kernel
theorem dX6_lightIf_90 : decode cX6_lightIf 90 = .ok (.istore 8, 2) := by decide +kernel
theorem dX6_lightIf_92 : decode cX6_lightIf 92 = .ok (.iconst 0, 1) := by decide +kernel
theorem dX6_lightIf_93 : decode cX6_lightIf 93 = .ok (.istore 9, 2) := by decide +kernel
theorem dX6_lightIf_95 : decode cX6_lightIf 95 = .ok (.iload 9, 2) := by decide +kernel
theorem dX6_lightIf_97 : decode cX6_lightIf 97 = .ok (.sipush 1152, 3) := by decide +kernel
theorem dX6_lightIf_100 : decode cX6_lightIf 100 = .ok (.if_icmp .ge 21, 3) := by decide +kernel
theorem dX6_lightIf_103 : decode cX6_lightIf 103 = .ok (.iload 8, 2) := by decide +kernel
theorem dX6_lightIf_105 : decode cX6_lightIf 105 = .ok (.aload_n 0, 1) := by decide +kernel
theorem dX6_lightIf_106 : decode cX6_lightIf 106 = .ok (.getfield 28, 3) := by decide +kernel
theorem dX6_lightIf_109 : decode cX6_lightIf 109 = .ok (.iload 9, 2) := by decide +kernel
theorem dX6_lightIf_111 : decode cX6_lightIf 111 = .ok (.iaload, 1) := by decide +kernel
theorem dX6_lightIf_112 : decode cX6_lightIf 112 = .ok (.iadd, 1) := by decide +kernel
theorem dX6_lightIf_113 : decode cX6_lightIf 113 = .ok (.istore 8, 2) := by decide +kernel
theorem dX6_lightIf_115 : decode cX6_lightIf 115 = .ok (.iinc 9 1, 3) := by decide +kernel
theorem dX6_lightIf_118 : decode cX6_lightIf 118 = .ok (.goto (-23), 3) := by decide +kernel
theorem dX6_lightIf_121 : decode cX6_lightIf 121 = .ok (.iload 8, 2) := by decide +kernel
theorem dX6_lightIf_123 : decode cX6_lightIf 123 = .ok (.ireturn, 1) := by decide +kernel
theorem dX6_spread_0 : decode cX6_spread 0 = .ok (.iload_n 1, 1) := by decide +kernel
theorem dX6_spread_1 : decode cX6_spread 1 = .ok (.iload_n 2, 1) := by decide +kernel
theorem dX6_spread_2 : decode cX6_spread 2 = .ok (.iload_n 3, 1) := by decide +kernel
theorem dX6_spread_3 : decode cX6_spread 3 = .ok (.invokestatic 74, 3) := by decide +kernel
theorem dX6_spread_6 : decode cX6_spread 6 = .ok (.ifCond .eq 11, 3) := by decide +kernel
theorem dX6_spread_9 : decode cX6_spread 9 = .ok (.iload 4, 2) := by decide +kernel
theorem dX6_spread_11 : decode cX6_spread 11 = .ok (.invokestatic 128, 3) := by decide +kernel
theorem dX6_spread_14 : decode cX6_spread 14 = .ok (.ifCond .ne 5, 3) := by decide +kernel
theorem dX6_spread_17 : decode cX6_spread 17 = .ok (.iconst (-1), 1) := by decide +kernel
theorem dX6_spread_18 : decode cX6_spread 18 = .ok (.ireturn, 1) := by decide +kernel
theorem dX6_spread_19 : decode cX6_spread 19 = .ok (.aload_n 0, 1) := by decide +kernel
theorem dX6_spread_20 : decode cX6_spread 20 = .ok (.getfield 24, 3) := by decide +kernel
theorem dX6_spread_23 : decode cX6_spread 23 = .ok (.aload_n 0, 1) := by decide +kernel
theorem dX6_spread_24 : decode cX6_spread 24 = .ok (.getfield 12, 3) := by decide +kernel
theorem dX6_spread_27 : decode cX6_spread 27 = .ok (.iload 4, 2) := by decide +kernel
theorem dX6_spread_29 : decode cX6_spread 29 = .ok (.iload_n 1, 1) := by decide +kernel
theorem dX6_spread_30 : decode cX6_spread 30 = .ok (.iload_n 2, 1) := by decide +kernel
theorem dX6_spread_31 : decode cX6_spread 31 = .ok (.iload_n 3, 1) := by decide +kernel
theorem dX6_spread_32 : decode cX6_spread 32 = .ok (.invokestatic 84, 3) := by decide +kernel
theorem dX6_spread_35 : decode cX6_spread 35 = .ok (.aload_n 0, 1) := by decide +kernel
theorem dX6_spread_36 : decode cX6_spread 36 = .ok (.getfield 28, 3) := by decide +kernel
theorem dX6_spread_39 : decode cX6_spread 39 = .ok (.invokevirtual 172, 3) := by decide +kernel
theorem dX6_spread_42 : decode cX6_spread 42 = .ok (.iconst 0, 1) := by decide +kernel
theorem dX6_spread_43 : decode cX6_spread 43 = .ok (.istore 5, 2) := by decide +kernel
theorem dX6_spread_45 : decode cX6_spread 45 = .ok (.iconst 0, 1) := by decide +kernel
theorem dX6_spread_46 : decode cX6_spread 46 = .ok (.istore 6, 2) := by decide +kernel
theorem dX6_spread_48 : decode cX6_spread 48 = .ok (.iload 6, 2) := by decide +kernel
theorem dX6_spread_50 : decode cX6_spread 50 = .ok (.sipush 1152, 3) := by decide +kernel
theorem dX6_spread_53 : decode cX6_spread 53 = .ok (.if_icmp .ge 32, 3) := by decide +kernel
theorem dX6_spread_56 : decode cX6_spread 56 = .ok (.aload_n 0, 1) := by decide +kernel
theorem dX6_spread_57 : decode cX6_spread 57 = .ok (.getfield 28, 3) := by decide +kernel
theorem dX6_spread_60 : decode cX6_spread 60 = .ok (.iload 6, 2) := by decide +kernel
theorem dX6_spread_62 : decode cX6_spread 62 = .ok (.iaload, 1) := by decide +kernel
theorem dX6_spread_63 : decode cX6_spread 63 = .ok (.aload_n 0, 1) := by decide +kernel
theorem dX6_spread_64 : decode cX6_spread 64 = .ok (.getfield 18, 3) := by decide +kernel
theorem dX6_spread_67 : decode cX6_spread 67 = .ok (.iload 4, 2) := by decide +kernel
theorem dX6_spread_69 : decode cX6_spread 69 = .ok (.aaload, 1) := by decide +kernel
theorem dX6_spread_70 : decode cX6_spread 70 = .ok (.iload 6, 2) := by decide +kernel
theorem dX6_spread_72 : decode cX6_spread 72 = .ok (.iaload, 1) := by decide +kernel
theorem dX6_spread_73 : decode cX6_spread 73 = .ok (.if_icmp .ge 6, 3) := by decide +kernel
theorem dX6_spread_76 : decode cX6_spread 76 = .ok (.iinc 5 1, 3) := by decide +kernel
theorem dX6_spread_79 : decode cX6_spread 79 = .ok (.iinc 6 1, 3) := by decide +kernel
theorem dX6_spread_82 : decode cX6_spread 82 = .ok (.goto (-34), 3) := by decide +kernel
theorem dX6_spread_85 : decode cX6_spread 85 = .ok (.iload 5, 2) := by decide +kernel
theorem dX6_spread_87 : decode cX6_spread 87 = .ok (.ireturn, 1) := by decide +kernel
theorem dX6_needed_0 : decode cX6_needed 0 = .ok (.iload_n 1, 1) := by decide +kernel
theorem dX6_needed_1 : decode cX6_needed 1 = .ok (.iload_n 2, 1) := by decide +kernel
theorem dX6_needed_2 : decode cX6_needed 2 = .ok (.iload_n 3, 1) := by decide +kernel
theorem dX6_needed_3 : decode cX6_needed 3 = .ok (.invokestatic 74, 3) := by decide +kernel
theorem dX6_needed_6 : decode cX6_needed 6 = .ok (.ifCond .eq 17, 3) := by decide +kernel
theorem dX6_needed_9 : decode cX6_needed 9 = .ok (.iload 4, 2) := by decide +kernel
theorem dX6_needed_11 : decode cX6_needed 11 = .ok (.invokestatic 128, 3) := by decide +kernel
theorem dX6_needed_14 : decode cX6_needed 14 = .ok (.ifCond .eq 9, 3) := by decide +kernel
theorem dX6_needed_17 : decode cX6_needed 17 = .ok (.iload_n 2, 1) := by decide +kernel
theorem dX6_needed_18 : decode cX6_needed 18 = .ok (.bipush 7, 2) := by decide +kernel
theorem dX6_needed_20 : decode cX6_needed 20 = .ok (.if_icmp .ne 5, 3) := by decide +kernel
theorem dX6_needed_23 : decode cX6_needed 23 = .ok (.iconst (-1), 1) := by decide +kernel
theorem dX6_needed_24 : decode cX6_needed 24 = .ok (.ireturn, 1) := by decide +kernel
theorem dX6_needed_25 : decode cX6_needed 25 = .ok (.iload 5, 2) := by decide +kernel
theorem dX6_needed_27 : decode cX6_needed 27 = .ok (.invokestatic 122, 3) := by decide +kernel
theorem dX6_needed_30 : decode cX6_needed 30 = .ok (.ifCond .ne 6, 3) := by decide +kernel
theorem dX6_needed_33 : decode cX6_needed 33 = .ok (.bipush (-2), 2) := by decide +kernel
theorem dX6_needed_35 : decode cX6_needed 35 = .ok (.ireturn, 1) := by decide +kernel
theorem dX6_needed_36 : decode cX6_needed 36 = .ok (.iload_n 1, 1) := by decide +kernel
theorem dX6_needed_37 : decode cX6_needed 37 = .ok (.iload_n 2, 1) := by decide +kernel
theorem dX6_needed_38 : decode cX6_needed 38 = .ok (.iload_n 3, 1) := by decide +kernel
theorem dX6_needed_39 : decode cX6_needed 39 = .ok (.invokestatic 84, 3) := by decide +kernel
theorem dX6_needed_42 : decode cX6_needed 42 = .ok (.istore 6, 2) := by decide +kernel
theorem dX6_needed_44 : decode cX6_needed 44 = .ok (.iload 6, 2) := by decide +kernel
theorem dX6_needed_46 : decode cX6_needed 46 = .ok (.bipush 12, 2) := by decide +kernel
theorem dX6_needed_48 : decode cX6_needed 48 = .ok (.iadd, 1) := by decide +kernel
theorem dX6_needed_49 : decode cX6_needed 49 = .ok (.istore 7, 2) := by decide +kernel
theorem dX6_needed_51 : decode cX6_needed 51 = .ok (.aload_n 0, 1) := by decide +kernel
theorem dX6_needed_52 : decode cX6_needed 52 = .ok (.getfield 24, 3) := by decide +kernel
theorem dX6_needed_55 : decode cX6_needed 55 = .ok (.aload_n 0, 1) := by decide +kernel
theorem dX6_needed_56 : decode cX6_needed 56 = .ok (.getfield 12, 3) := by decide +kernel
theorem dX6_needed_59 : decode cX6_needed 59 = .ok (.iload 4, 2) := by decide +kernel
theorem dX6_needed_61 : decode cX6_needed 61 = .ok (.iload 6, 2) := by decide +kernel
theorem dX6_needed_63 : decode cX6_needed 63 = .ok (.aload_n 0, 1) := by decide +kernel
theorem dX6_needed_64 : decode cX6_needed 64 = .ok (.getfield 28, 3) := by decide +kernel
theorem dX6_needed_67 : decode cX6_needed 67 = .ok (.invokevirtual 172, 3) := by decide +kernel
theorem dX6_needed_70 : decode cX6_needed 70 = .ok (.aload_n 0, 1) := by decide +kernel
theorem dX6_needed_71 : decode cX6_needed 71 = .ok (.getfield 28, 3) := by decide +kernel
theorem dX6_needed_74 : decode cX6_needed 74 = .ok (.iload 7, 2) := by decide +kernel
theorem dX6_needed_76 : decode cX6_needed 76 = .ok (.iaload, 1) := by decide +kernel
theorem dX6_needed_77 : decode cX6_needed 77 = .ok (.iload 5, 2) := by decide +kernel
theorem dX6_needed_79 : decode cX6_needed 79 = .ok (.if_icmp .lt 5, 3) := by decide +kernel
theorem dX6_needed_82 : decode cX6_needed 82 = .ok (.iconst 0, 1) := by decide +kernel
theorem dX6_needed_83 : decode cX6_needed 83 = .ok (.ireturn, 1) := by decide +kernel
theorem dX6_needed_84 : decode cX6_needed 84 = .ok (.iload 5, 2) := by decide +kernel
theorem dX6_needed_86 : decode cX6_needed 86 = .ok (.iconst 1, 1) := by decide +kernel
theorem dX6_needed_87 : decode cX6_needed 87 = .ok (.iadd, 1) := by decide +kernel
theorem dX6_needed_88 : decode cX6_needed 88 = .ok (.aload_n 0, 1) := by decide +kernel
theorem dX6_needed_89 : decode cX6_needed 89 = .ok (.getfield 12, 3) := by decide +kernel
theorem dX6_needed_92 : decode cX6_needed 92 = .ok (.iload 7, 2) := by decide +kernel
theorem dX6_needed_94 : decode cX6_needed 94 = .ok (.iload 4, 2) := by decide +kernel
theorem dX6_needed_96 : decode cX6_needed 96 = .ok (.invokevirtual 176, 3) := by decide +kernel
theorem dX6_needed_99 : decode cX6_needed 99 = .ok (.iadd, 1) := by decide +kernel
theorem dX6_needed_100 : decode cX6_needed 100 = .ok (.istore 8, 2) := by decide +kernel
theorem dX6_needed_102 : decode cX6_needed 102 = .ok (.iload 8, 2) := by decide +kernel
theorem dX6_needed_104 : decode cX6_needed 104 = .ok (.bipush 15, 2) := by decide +kernel
theorem dX6_needed_106 : decode cX6_needed 106 = .ok (.if_icmp .gt 8, 3) := by decide +kernel
theorem dX6_needed_109 : decode cX6_needed 109 = .ok (.iload 8, 2) := by decide +kernel
theorem dX6_needed_111 : decode cX6_needed 111 = .ok (.goto 5, 3) := by decide +kernel
theorem dX6_needed_114 : decode cX6_needed 114 = .ok (.bipush (-4), 2) := by decide +kernel
theorem dX6_needed_116 : decode cX6_needed 116 = .ok (.ireturn, 1) := by decide +kernel
theorem dX6_chunkSum_0 : decode cX6_chunkSum 0 = .ok (.iload_n 1, 1) := by decide +kernel
theorem dX6_chunkSum_1 : decode cX6_chunkSum 1 = .ok (.invokestatic 179, 3) := by decide +kernel
theorem dX6_chunkSum_4 : decode cX6_chunkSum 4 = .ok (.ifCond .eq 10, 3) := by decide +kernel
theorem dX6_chunkSum_7 : decode cX6_chunkSum 7 = .ok (.iload_n 2, 1) := by decide +kernel
theorem dX6_chunkSum_8 : decode cX6_chunkSum 8 = .ok (.invokestatic 119, 3) := by decide +kernel
theorem dX6_chunkSum_11 : decode cX6_chunkSum 11 = .ok (.ifCond .ne 5, 3) := by decide +kernel
theorem dX6_chunkSum_14 : decode cX6_chunkSum 14 = .ok (.iconst (-1), 1) := by decide +kernel
theorem dX6_chunkSum_15 : decode cX6_chunkSum 15 = .ok (.ireturn, 1) := by decide +kernel
theorem dX6_chunkSum_16 : decode cX6_chunkSum 16 = .ok (.iconst 0, 1) := by decide +kernel
theorem dX6_chunkSum_17 : decode cX6_chunkSum 17 = .ok (.istore_n 3, 1) := by decide +kernel
theorem dX6_chunkSum_18 : decode cX6_chunkSum 18 = .ok (.iconst 0, 1) := by decide +kernel
theorem dX6_chunkSum_19 : decode cX6_chunkSum 19 = .ok (.istore 4, 2) := by decide +kernel
theorem dX6_chunkSum_21 : decode cX6_chunkSum 21 = .ok (.iload 4, 2) := by decide +kernel
theorem dX6_chunkSum_23 : decode cX6_chunkSum 23 = .ok (.sipush 1152, 3) := by decide +kernel
theorem dX6_chunkSum_26 : decode cX6_chunkSum 26 = .ok (.if_icmp .ge 30, 3) := by decide +kernel
theorem dX6_chunkSum_29 : decode cX6_chunkSum 29 = .ok (.iload 4, 2) := by decide +kernel
theorem dX6_chunkSum_31 : decode cX6_chunkSum 31 = .ok (.invokestatic 169, 3) := by decide +kernel
theorem dX6_chunkSum_34 : decode cX6_chunkSum 34 = .ok (.iload_n 1, 1) := by decide +kernel
theorem dX6_chunkSum_35 : decode cX6_chunkSum 35 = .ok (.if_icmp .ne 15, 3) := by decide +kernel
theorem dX6_chunkSum_38 : decode cX6_chunkSum 38 = .ok (.iload_n 3, 1) := by decide +kernel
theorem dX6_chunkSum_39 : decode cX6_chunkSum 39 = .ok (.aload_n 0, 1) := by decide +kernel
theorem dX6_chunkSum_40 : decode cX6_chunkSum 40 = .ok (.getfield 18, 3) := by decide +kernel
theorem dX6_chunkSum_43 : decode cX6_chunkSum 43 = .ok (.iload_n 2, 1) := by decide +kernel
theorem dX6_chunkSum_44 : decode cX6_chunkSum 44 = .ok (.aaload, 1) := by decide +kernel
theorem dX6_chunkSum_45 : decode cX6_chunkSum 45 = .ok (.iload 4, 2) := by decide +kernel
theorem dX6_chunkSum_47 : decode cX6_chunkSum 47 = .ok (.iaload, 1) := by decide +kernel
theorem dX6_chunkSum_48 : decode cX6_chunkSum 48 = .ok (.iadd, 1) := by decide +kernel
theorem dX6_chunkSum_49 : decode cX6_chunkSum 49 = .ok (.istore_n 3, 1) := by decide +kernel
theorem dX6_chunkSum_50 : decode cX6_chunkSum 50 = .ok (.iinc 4 1, 3) := by decide +kernel
theorem dX6_chunkSum_53 : decode cX6_chunkSum 53 = .ok (.goto (-32), 3) := by decide +kernel
theorem dX6_chunkSum_56 : decode cX6_chunkSum 56 = .ok (.iload_n 3, 1) := by decide +kernel
theorem dX6_chunkSum_57 : decode cX6_chunkSum 57 = .ok (.ireturn, 1) := by decide +kernel
theorem dX6_crossings_0 : decode cX6_crossings 0 = .ok (.iload_n 1, 1) := by decide +kernel
theorem dX6_crossings_1 : decode cX6_crossings 1 = .ok (.invokestatic 179, 3) := by decide +kernel
theorem dX6_crossings_4 : decode cX6_crossings 4 = .ok (.ifCond .eq 17, 3) := by decide +kernel
theorem dX6_crossings_7 : decode cX6_crossings 7 = .ok (.iload_n 2, 1) := by decide +kernel
theorem dX6_crossings_8 : decode cX6_crossings 8 = .ok (.invokestatic 179, 3) := by decide +kernel
theorem dX6_crossings_11 : decode cX6_crossings 11 = .ok (.ifCond .eq 10, 3) := by decide +kernel
theorem dX6_crossings_14 : decode cX6_crossings 14 = .ok (.iload_n 3, 1) := by decide +kernel
theorem dX6_crossings_15 : decode cX6_crossings 15 = .ok (.invokestatic 119, 3) := by decide +kernel
theorem dX6_crossings_18 : decode cX6_crossings 18 = .ok (.ifCond .ne 5, 3) := by decide +kernel
theorem dX6_crossings_21 : decode cX6_crossings 21 = .ok (.iconst (-1), 1) := by decide +kernel
theorem dX6_crossings_22 : decode cX6_crossings 22 = .ok (.ireturn, 1) := by decide +kernel
theorem dX6_crossings_23 : decode cX6_crossings 23 = .ok (.iload_n 1, 1) := by decide +kernel
theorem dX6_crossings_24 : decode cX6_crossings 24 = .ok (.iload_n 2, 1) := by decide +kernel
theorem dX6_crossings_25 : decode cX6_crossings 25 = .ok (.if_icmp .ne 6, 3) := by decide +kernel
theorem dX6_crossings_28 : decode cX6_crossings 28 = .ok (.bipush (-2), 2) := by decide +kernel
theorem dX6_crossings_30 : decode cX6_crossings 30 = .ok (.ireturn, 1) := by decide +kernel
theorem dX6_crossings_31 : decode cX6_crossings 31 = .ok (.iconst 0, 1) := by decide +kernel
theorem dX6_crossings_32 : decode cX6_crossings 32 = .ok (.istore 4, 2) := by decide +kernel
theorem dX6_crossings_34 : decode cX6_crossings 34 = .ok (.iconst 0, 1) := by decide +kernel
theorem dX6_crossings_35 : decode cX6_crossings 35 = .ok (.istore 5, 2) := by decide +kernel
theorem dX6_crossings_37 : decode cX6_crossings 37 = .ok (.iload 5, 2) := by decide +kernel
theorem dX6_crossings_39 : decode cX6_crossings 39 = .ok (.sipush 1152, 3) := by decide +kernel
theorem dX6_crossings_42 : decode cX6_crossings 42 = .ok (.if_icmp .ge 45, 3) := by decide +kernel
theorem dX6_crossings_45 : decode cX6_crossings 45 = .ok (.iload 5, 2) := by decide +kernel
theorem dX6_crossings_47 : decode cX6_crossings 47 = .ok (.invokestatic 169, 3) := by decide +kernel
theorem dX6_crossings_50 : decode cX6_crossings 50 = .ok (.iload_n 1, 1) := by decide +kernel
theorem dX6_crossings_51 : decode cX6_crossings 51 = .ok (.if_icmp .ne 30, 3) := by decide +kernel
theorem dX6_crossings_54 : decode cX6_crossings 54 = .ok (.aload_n 0, 1) := by decide +kernel
theorem dX6_crossings_55 : decode cX6_crossings 55 = .ok (.iload 5, 2) := by decide +kernel
theorem dX6_crossings_57 : decode cX6_crossings 57 = .ok (.iload_n 3, 1) := by decide +kernel
theorem dX6_crossings_58 : decode cX6_crossings 58 = .ok (.invokevirtual 163, 3) := by decide +kernel
theorem dX6_crossings_61 : decode cX6_crossings 61 = .ok (.istore 6, 2) := by decide +kernel
theorem dX6_crossings_63 : decode cX6_crossings 63 = .ok (.iload 6, 2) := by decide +kernel
theorem dX6_crossings_65 : decode cX6_crossings 65 = .ok (.iconst (-1), 1) := by decide +kernel
theorem dX6_crossings_66 : decode cX6_crossings 66 = .ok (.if_icmp .eq 15, 3) := by decide +kernel
theorem dX6_crossings_69 : decode cX6_crossings 69 = .ok (.iload 6, 2) := by decide +kernel
theorem dX6_crossings_71 : decode cX6_crossings 71 = .ok (.invokestatic 169, 3) := by decide +kernel
theorem dX6_crossings_74 : decode cX6_crossings 74 = .ok (.iload_n 2, 1) := by decide +kernel
theorem dX6_crossings_75 : decode cX6_crossings 75 = .ok (.if_icmp .ne 6, 3) := by decide +kernel
theorem dX6_crossings_78 : decode cX6_crossings 78 = .ok (.iinc 4 1, 3) := by decide +kernel
theorem dX6_crossings_81 : decode cX6_crossings 81 = .ok (.iinc 5 1, 3) := by decide +kernel
theorem dX6_crossings_84 : decode cX6_crossings 84 = .ok (.goto (-47), 3) := by decide +kernel
theorem dX6_crossings_87 : decode cX6_crossings 87 = .ok (.iload 4, 2) := by decide +kernel
theorem dX6_crossings_89 : decode cX6_crossings 89 = .ok (.ireturn, 1) := by decide +kernel
theorem dX6_dark_0 : decode cX6_dark 0 = .ok (.iload_n 1, 1) := by decide +kernel
theorem dX6_dark_1 : decode cX6_dark 1 = .ok (.invokestatic 122, 3) := by decide +kernel
theorem dX6_dark_4 : decode cX6_dark 4 = .ok (.ifCond .ne 6, 3) := by decide +kernel
theorem dX6_dark_7 : decode cX6_dark 7 = .ok (.bipush (-2), 2) := by decide +kernel
theorem dX6_dark_9 : decode cX6_dark 9 = .ok (.ireturn, 1) := by decide +kernel
theorem dX6_dark_10 : decode cX6_dark 10 = .ok (.iconst 0, 1) := by decide +kernel
theorem dX6_dark_11 : decode cX6_dark 11 = .ok (.istore_n 2, 1) := by decide +kernel
theorem dX6_dark_12 : decode cX6_dark 12 = .ok (.iconst 0, 1) := by decide +kernel
theorem dX6_dark_13 : decode cX6_dark 13 = .ok (.istore_n 3, 1) := by decide +kernel
theorem dX6_dark_14 : decode cX6_dark 14 = .ok (.iload_n 3, 1) := by decide +kernel
theorem dX6_dark_15 : decode cX6_dark 15 = .ok (.sipush 1152, 3) := by decide +kernel
theorem dX6_dark_18 : decode cX6_dark 18 = .ok (.if_icmp .ge 33, 3) := by decide +kernel
theorem dX6_dark_21 : decode cX6_dark 21 = .ok (.aload_n 0, 1) := by decide +kernel
theorem dX6_dark_22 : decode cX6_dark 22 = .ok (.iload_n 3, 1) := by decide +kernel
theorem dX6_dark_23 : decode cX6_dark 23 = .ok (.invokevirtual 182, 3) := by decide +kernel
theorem dX6_dark_26 : decode cX6_dark 26 = .ok (.iload_n 1, 1) := by decide +kernel
theorem dX6_dark_27 : decode cX6_dark 27 = .ok (.if_icmp .gt 18, 3) := by decide +kernel
theorem dX6_dark_30 : decode cX6_dark 30 = .ok (.aload_n 0, 1) := by decide +kernel
theorem dX6_dark_31 : decode cX6_dark 31 = .ok (.getfield 18, 3) := by decide +kernel
theorem dX6_dark_34 : decode cX6_dark 34 = .ok (.iconst 3, 1) := by decide +kernel
theorem dX6_dark_35 : decode cX6_dark 35 = .ok (.aaload, 1) := by decide +kernel
theorem dX6_dark_36 : decode cX6_dark 36 = .ok (.iload_n 3, 1) := by decide +kernel
theorem dX6_dark_37 : decode cX6_dark 37 = .ok (.iaload, 1) := by decide +kernel
theorem dX6_dark_38 : decode cX6_dark 38 = .ok (.iload_n 1, 1) := by decide +kernel
theorem dX6_dark_39 : decode cX6_dark 39 = .ok (.if_icmp .gt 6, 3) := by decide +kernel
theorem dX6_dark_42 : decode cX6_dark 42 = .ok (.iinc 2 1, 3) := by decide +kernel
theorem dX6_dark_45 : decode cX6_dark 45 = .ok (.iinc 3 1, 3) := by decide +kernel
theorem dX6_dark_48 : decode cX6_dark 48 = .ok (.goto (-34), 3) := by decide +kernel
theorem dX6_dark_51 : decode cX6_dark 51 = .ok (.iload_n 2, 1) := by decide +kernel
theorem dX6_dark_52 : decode cX6_dark 52 = .ok (.ireturn, 1) := by decide +kernel
theorem dX6_skyHeight_0 : decode cX6_skyHeight 0 = .ok (.iload_n 1, 1) := by decide +kernel
theorem dX6_skyHeight_1 : decode cX6_skyHeight 1 = .ok (.iconst 0, 1) := by decide +kernel
theorem dX6_skyHeight_2 : decode cX6_skyHeight 2 = .ok (.iload_n 2, 1) := by decide +kernel
theorem dX6_skyHeight_3 : decode cX6_skyHeight 3 = .ok (.invokestatic 74, 3) := by decide +kernel
theorem dX6_skyHeight_6 : decode cX6_skyHeight 6 = .ok (.ifCond .ne 5, 3) := by decide +kernel
theorem dX6_skyHeight_9 : decode cX6_skyHeight 9 = .ok (.iconst (-1), 1) := by decide +kernel
theorem dX6_skyHeight_10 : decode cX6_skyHeight 10 = .ok (.ireturn, 1) := by decide +kernel
theorem dX6_skyHeight_11 : decode cX6_skyHeight 11 = .ok (.bipush 8, 2) := by decide +kernel
theorem dX6_skyHeight_13 : decode cX6_skyHeight 13 = .ok (.istore_n 3, 1) := by decide +kernel
theorem dX6_skyHeight_14 : decode cX6_skyHeight 14 = .ok (.bipush 7, 2) := by decide +kernel
theorem dX6_skyHeight_16 : decode cX6_skyHeight 16 = .ok (.istore 4, 2) := by decide +kernel
theorem dX6_skyHeight_18 : decode cX6_skyHeight 18 = .ok (.iload 4, 2) := by decide +kernel
theorem dX6_skyHeight_20 : decode cX6_skyHeight 20 = .ok (.ifCond .lt 31, 3) := by decide +kernel
theorem dX6_skyHeight_23 : decode cX6_skyHeight 23 = .ok (.aload_n 0, 1) := by decide +kernel
theorem dX6_skyHeight_24 : decode cX6_skyHeight 24 = .ok (.getfield 18, 3) := by decide +kernel
theorem dX6_skyHeight_27 : decode cX6_skyHeight 27 = .ok (.iconst 3, 1) := by decide +kernel
theorem dX6_skyHeight_28 : decode cX6_skyHeight 28 = .ok (.aaload, 1) := by decide +kernel
theorem dX6_skyHeight_29 : decode cX6_skyHeight 29 = .ok (.iload_n 1, 1) := by decide +kernel
theorem dX6_skyHeight_30 : decode cX6_skyHeight 30 = .ok (.iload 4, 2) := by decide +kernel
theorem dX6_skyHeight_32 : decode cX6_skyHeight 32 = .ok (.iload_n 2, 1) := by decide +kernel
theorem dX6_skyHeight_33 : decode cX6_skyHeight 33 = .ok (.invokestatic 84, 3) := by decide +kernel
theorem dX6_skyHeight_36 : decode cX6_skyHeight 36 = .ok (.iaload, 1) := by decide +kernel
theorem dX6_skyHeight_37 : decode cX6_skyHeight 37 = .ok (.bipush 15, 2) := by decide +kernel
theorem dX6_skyHeight_39 : decode cX6_skyHeight 39 = .ok (.if_icmp .ne 12, 3) := by decide +kernel
theorem dX6_skyHeight_42 : decode cX6_skyHeight 42 = .ok (.iload 4, 2) := by decide +kernel
theorem dX6_skyHeight_44 : decode cX6_skyHeight 44 = .ok (.istore_n 3, 1) := by decide +kernel
theorem dX6_skyHeight_45 : decode cX6_skyHeight 45 = .ok (.iinc 4 (-1), 3) := by decide +kernel
theorem dX6_skyHeight_48 : decode cX6_skyHeight 48 = .ok (.goto (-30), 3) := by decide +kernel
theorem dX6_skyHeight_51 : decode cX6_skyHeight 51 = .ok (.iload_n 3, 1) := by decide +kernel
theorem dX6_skyHeight_52 : decode cX6_skyHeight 52 = .ok (.ireturn, 1) := by decide +kernel
theorem dX6_ray_0 : decode cX6_ray 0 = .ok (.iload_n 1, 1) := by decide +kernel
theorem dX6_ray_1 : decode cX6_ray 1 = .ok (.iload_n 2, 1) := by decide +kernel
theorem dX6_ray_2 : decode cX6_ray 2 = .ok (.iload_n 3, 1) := by decide +kernel
theorem dX6_ray_3 : decode cX6_ray 3 = .ok (.invokestatic 74, 3) := by decide +kernel
theorem dX6_ray_6 : decode cX6_ray 6 = .ok (.ifCond .eq 23, 3) := by decide +kernel
theorem dX6_ray_9 : decode cX6_ray 9 = .ok (.iload 4, 2) := by decide +kernel
theorem dX6_ray_11 : decode cX6_ray 11 = .ok (.ifCond .lt 18, 3) := by decide +kernel
theorem dX6_ray_14 : decode cX6_ray 14 = .ok (.iload 4, 2) := by decide +kernel
theorem dX6_ray_16 : decode cX6_ray 16 = .ok (.bipush 6, 2) := by decide +kernel
theorem dX6_ray_18 : decode cX6_ray 18 = .ok (.if_icmp .ge 11, 3) := by decide +kernel
theorem dX6_ray_21 : decode cX6_ray 21 = .ok (.iload 5, 2) := by decide +kernel
theorem dX6_ray_23 : decode cX6_ray 23 = .ok (.invokestatic 119, 3) := by decide +kernel
theorem dX6_ray_26 : decode cX6_ray 26 = .ok (.ifCond .ne 5, 3) := by decide +kernel
theorem dX6_ray_29 : decode cX6_ray 29 = .ok (.iconst (-1), 1) := by decide +kernel
theorem dX6_ray_30 : decode cX6_ray 30 = .ok (.ireturn, 1) := by decide +kernel
theorem dX6_ray_31 : decode cX6_ray 31 = .ok (.bipush 15, 2) := by decide +kernel
theorem dX6_ray_33 : decode cX6_ray 33 = .ok (.istore 6, 2) := by decide +kernel
theorem dX6_ray_35 : decode cX6_ray 35 = .ok (.iconst 0, 1) := by decide +kernel
theorem dX6_ray_36 : decode cX6_ray 36 = .ok (.istore 7, 2) := by decide +kernel
theorem dX6_ray_38 : decode cX6_ray 38 = .ok (.iload_n 1, 1) := by decide +kernel
theorem dX6_ray_39 : decode cX6_ray 39 = .ok (.iload_n 2, 1) := by decide +kernel
theorem dX6_ray_40 : decode cX6_ray 40 = .ok (.iload_n 3, 1) := by decide +kernel
theorem dX6_ray_41 : decode cX6_ray 41 = .ok (.invokestatic 84, 3) := by decide +kernel
theorem dX6_ray_44 : decode cX6_ray 44 = .ok (.iload 4, 2) := by decide +kernel
theorem dX6_ray_46 : decode cX6_ray 46 = .ok (.invokestatic 185, 3) := by decide +kernel
theorem dX6_ray_49 : decode cX6_ray 49 = .ok (.istore 8, 2) := by decide +kernel
theorem dX6_ray_51 : decode cX6_ray 51 = .ok (.iload 8, 2) := by decide +kernel
theorem dX6_ray_53 : decode cX6_ray 53 = .ok (.iconst (-1), 1) := by decide +kernel
theorem dX6_ray_54 : decode cX6_ray 54 = .ok (.if_icmp .eq 53, 3) := by decide +kernel
theorem dX6_ray_57 : decode cX6_ray 57 = .ok (.iload 7, 2) := by decide +kernel
theorem dX6_ray_59 : decode cX6_ray 59 = .ok (.bipush 12, 2) := by decide +kernel
theorem dX6_ray_61 : decode cX6_ray 61 = .ok (.if_icmp .ge 46, 3) := by decide +kernel
theorem dX6_ray_64 : decode cX6_ray 64 = .ok (.iload 6, 2) := by decide +kernel
theorem dX6_ray_66 : decode cX6_ray 66 = .ok (.aload_n 0, 1) := by decide +kernel
theorem dX6_ray_67 : decode cX6_ray 67 = .ok (.getfield 12, 3) := by decide +kernel
theorem dX6_ray_70 : decode cX6_ray 70 = .ok (.iload 8, 2) := by decide +kernel
theorem dX6_ray_72 : decode cX6_ray 72 = .ok (.iload 5, 2) := by decide +kernel
theorem dX6_ray_74 : decode cX6_ray 74 = .ok (.invokevirtual 176, 3) := by decide +kernel
theorem dX6_ray_77 : decode cX6_ray 77 = .ok (.isub, 1) := by decide +kernel
theorem dX6_ray_78 : decode cX6_ray 78 = .ok (.istore 9, 2) := by decide +kernel
theorem dX6_ray_80 : decode cX6_ray 80 = .ok (.iload 9, 2) := by decide +kernel
theorem dX6_ray_82 : decode cX6_ray 82 = .ok (.ifCond .gt 6, 3) := by decide +kernel
theorem dX6_ray_85 : decode cX6_ray 85 = .ok (.goto 22, 3) := by decide +kernel
theorem dX6_ray_88 : decode cX6_ray 88 = .ok (.iload 9, 2) := by decide +kernel
theorem dX6_ray_90 : decode cX6_ray 90 = .ok (.istore 6, 2) := by decide +kernel
theorem dX6_ray_92 : decode cX6_ray 92 = .ok (.iinc 7 1, 3) := by decide +kernel
theorem dX6_ray_95 : decode cX6_ray 95 = .ok (.iload 8, 2) := by decide +kernel
theorem dX6_ray_97 : decode cX6_ray 97 = .ok (.iload 4, 2) := by decide +kernel
theorem dX6_ray_99 : decode cX6_ray 99 = .ok (.invokestatic 185, 3) := by decide +kernel
theorem dX6_ray_102 : decode cX6_ray 102 = .ok (.istore 8, 2) := by decide +kernel
theorem dX6_ray_104 : decode cX6_ray 104 = .ok (.goto (-53), 3) := by decide +kernel
theorem dX6_ray_107 : decode cX6_ray 107 = .ok (.bipush 16, 2) := by decide +kernel
theorem dX6_ray_109 : decode cX6_ray 109 = .ok (.iload 7, 2) := by decide +kernel
theorem dX6_ray_111 : decode cX6_ray 111 = .ok (.imul, 1) := by decide +kernel
theorem dX6_ray_112 : decode cX6_ray 112 = .ok (.iload 6, 2) := by decide +kernel
theorem dX6_ray_114 : decode cX6_ray 114 = .ok (.iadd, 1) := by decide +kernel
theorem dX6_ray_115 : decode cX6_ray 115 = .ok (.ireturn, 1) := by decide +kernel
theorem dX6_brightest_0 : decode cX6_brightest 0 = .ok (.iload_n 1, 1) := by decide +kernel
theorem dX6_brightest_1 : decode cX6_brightest 1 = .ok (.invokestatic 119, 3) := by decide +kernel
theorem dX6_brightest_4 : decode cX6_brightest 4 = .ok (.ifCond .ne 5, 3) := by decide +kernel
theorem dX6_brightest_7 : decode cX6_brightest 7 = .ok (.iconst (-1), 1) := by decide +kernel
theorem dX6_brightest_8 : decode cX6_brightest 8 = .ok (.ireturn, 1) := by decide +kernel
theorem dX6_brightest_9 : decode cX6_brightest 9 = .ok (.iconst 0, 1) := by decide +kernel
theorem dX6_brightest_10 : decode cX6_brightest 10 = .ok (.istore_n 2, 1) := by decide +kernel
theorem dX6_brightest_11 : decode cX6_brightest 11 = .ok (.iconst 1, 1) := by decide +kernel
theorem dX6_brightest_12 : decode cX6_brightest 12 = .ok (.istore_n 3, 1) := by decide +kernel
theorem dX6_brightest_13 : decode cX6_brightest 13 = .ok (.iload_n 3, 1) := by decide +kernel
theorem dX6_brightest_14 : decode cX6_brightest 14 = .ok (.sipush 1152, 3) := by decide +kernel
theorem dX6_brightest_17 : decode cX6_brightest 17 = .ok (.if_icmp .ge 30, 3) := by decide +kernel
theorem dX6_brightest_20 : decode cX6_brightest 20 = .ok (.aload_n 0, 1) := by decide +kernel
theorem dX6_brightest_21 : decode cX6_brightest 21 = .ok (.getfield 18, 3) := by decide +kernel
theorem dX6_brightest_24 : decode cX6_brightest 24 = .ok (.iload_n 1, 1) := by decide +kernel
theorem dX6_brightest_25 : decode cX6_brightest 25 = .ok (.aaload, 1) := by decide +kernel
theorem dX6_brightest_26 : decode cX6_brightest 26 = .ok (.iload_n 3, 1) := by decide +kernel
theorem dX6_brightest_27 : decode cX6_brightest 27 = .ok (.iaload, 1) := by decide +kernel
theorem dX6_brightest_28 : decode cX6_brightest 28 = .ok (.aload_n 0, 1) := by decide +kernel
theorem dX6_brightest_29 : decode cX6_brightest 29 = .ok (.getfield 18, 3) := by decide +kernel
theorem dX6_brightest_32 : decode cX6_brightest 32 = .ok (.iload_n 1, 1) := by decide +kernel
theorem dX6_brightest_33 : decode cX6_brightest 33 = .ok (.aaload, 1) := by decide +kernel
theorem dX6_brightest_34 : decode cX6_brightest 34 = .ok (.iload_n 2, 1) := by decide +kernel
theorem dX6_brightest_35 : decode cX6_brightest 35 = .ok (.iaload, 1) := by decide +kernel
theorem dX6_brightest_36 : decode cX6_brightest 36 = .ok (.if_icmp .le 5, 3) := by decide +kernel
theorem dX6_brightest_39 : decode cX6_brightest 39 = .ok (.iload_n 3, 1) := by decide +kernel
theorem dX6_brightest_40 : decode cX6_brightest 40 = .ok (.istore_n 2, 1) := by decide +kernel
theorem dX6_brightest_41 : decode cX6_brightest 41 = .ok (.iinc 3 1, 3) := by decide +kernel
theorem dX6_brightest_44 : decode cX6_brightest 44 = .ok (.goto (-31), 3) := by decide +kernel
theorem dX6_brightest_47 : decode cX6_brightest 47 = .ok (.aload_n 0, 1) := by decide +kernel
theorem dX6_brightest_48 : decode cX6_brightest 48 = .ok (.getfield 18, 3) := by decide +kernel
theorem dX6_brightest_51 : decode cX6_brightest 51 = .ok (.iload_n 1, 1) := by decide +kernel
theorem dX6_brightest_52 : decode cX6_brightest 52 = .ok (.aaload, 1) := by decide +kernel
theorem dX6_brightest_53 : decode cX6_brightest 53 = .ok (.iload_n 2, 1) := by decide +kernel
theorem dX6_brightest_54 : decode cX6_brightest 54 = .ok (.iaload, 1) := by decide +kernel
theorem dX6_brightest_55 : decode cX6_brightest 55 = .ok (.ifCond .le 10, 3) := by decide +kernel
theorem dX6_brightest_58 : decode cX6_brightest 58 = .ok (.iload_n 2, 1) := by decide +kernel
theorem dX6_brightest_59 : decode cX6_brightest 59 = .ok (.invokestatic 166, 3) := by decide +kernel
theorem dX6_brightest_62 : decode cX6_brightest 62 = .ok (.goto 5, 3) := by decide +kernel
theorem dX6_brightest_65 : decode cX6_brightest 65 = .ok (.bipush (-4), 2) := by decide +kernel
theorem dX6_brightest_67 : decode cX6_brightest 67 = .ok (.ireturn, 1) := by decide +kernel
theorem dX6_regions_0 : decode cX6_regions 0 = .ok (.iload_n 1, 1) := by decide +kernel
theorem dX6_regions_1 : decode cX6_regions 1 = .ok (.iconst 1, 1) := by decide +kernel
theorem dX6_regions_2 : decode cX6_regions 2 = .ok (.if_icmp .lt 9, 3) := by decide +kernel
theorem dX6_regions_5 : decode cX6_regions 5 = .ok (.iload_n 1, 1) := by decide +kernel
theorem dX6_regions_6 : decode cX6_regions 6 = .ok (.bipush 15, 2) := by decide +kernel
theorem dX6_regions_8 : decode cX6_regions 8 = .ok (.if_icmp .le 6, 3) := by decide +kernel
theorem dX6_regions_11 : decode cX6_regions 11 = .ok (.bipush (-2), 2) := by decide +kernel
theorem dX6_regions_13 : decode cX6_regions 13 = .ok (.ireturn, 1) := by decide +kernel
theorem dX6_regions_14 : decode cX6_regions 14 = .ok (.iconst 0, 1) := by decide +kernel
theorem dX6_regions_15 : decode cX6_regions 15 = .ok (.istore_n 2, 1) := by decide +kernel
theorem dX6_regions_16 : decode cX6_regions 16 = .ok (.iload_n 2, 1) := by decide +kernel
theorem dX6_regions_17 : decode cX6_regions 17 = .ok (.sipush 1152, 3) := by decide +kernel
theorem dX6_regions_20 : decode cX6_regions 20 = .ok (.if_icmp .ge 29, 3) := by decide +kernel
theorem dX6_regions_23 : decode cX6_regions 23 = .ok (.aload_n 0, 1) := by decide +kernel
theorem dX6_regions_24 : decode cX6_regions 24 = .ok (.getfield 28, 3) := by decide +kernel
theorem dX6_regions_27 : decode cX6_regions 27 = .ok (.iload_n 2, 1) := by decide +kernel
theorem dX6_regions_28 : decode cX6_regions 28 = .ok (.aload_n 0, 1) := by decide +kernel
theorem dX6_regions_29 : decode cX6_regions 29 = .ok (.iload_n 2, 1) := by decide +kernel
theorem dX6_regions_30 : decode cX6_regions 30 = .ok (.invokevirtual 182, 3) := by decide +kernel
theorem dX6_regions_33 : decode cX6_regions 33 = .ok (.iload_n 1, 1) := by decide +kernel
theorem dX6_regions_34 : decode cX6_regions 34 = .ok (.if_icmp .lt 7, 3) := by decide +kernel
theorem dX6_regions_37 : decode cX6_regions 37 = .ok (.iconst 1, 1) := by decide +kernel
theorem dX6_regions_38 : decode cX6_regions 38 = .ok (.goto 4, 3) := by decide +kernel
theorem dX6_regions_41 : decode cX6_regions 41 = .ok (.iconst 0, 1) := by decide +kernel
theorem dX6_regions_42 : decode cX6_regions 42 = .ok (.iastore, 1) := by decide +kernel
theorem dX6_regions_43 : decode cX6_regions 43 = .ok (.iinc 2 1, 3) := by decide +kernel
theorem dX6_regions_46 : decode cX6_regions 46 = .ok (.goto (-30), 3) := by decide +kernel
theorem dX6_regions_49 : decode cX6_regions 49 = .ok (.iconst 0, 1) := by decide +kernel
theorem dX6_regions_50 : decode cX6_regions 50 = .ok (.istore_n 2, 1) := by decide +kernel
theorem dX6_regions_51 : decode cX6_regions 51 = .ok (.iconst 0, 1) := by decide +kernel
theorem dX6_regions_52 : decode cX6_regions 52 = .ok (.istore_n 3, 1) := by decide +kernel
theorem dX6_regions_53 : decode cX6_regions 53 = .ok (.iload_n 3, 1) := by decide +kernel
theorem dX6_regions_54 : decode cX6_regions 54 = .ok (.sipush 1152, 3) := by decide +kernel
theorem dX6_regions_57 : decode cX6_regions 57 = .ok (.if_icmp .ge 27, 3) := by decide +kernel
theorem dX6_regions_60 : decode cX6_regions 60 = .ok (.aload_n 0, 1) := by decide +kernel
theorem dX6_regions_61 : decode cX6_regions 61 = .ok (.getfield 28, 3) := by decide +kernel
theorem dX6_regions_64 : decode cX6_regions 64 = .ok (.iload_n 3, 1) := by decide +kernel
theorem dX6_regions_65 : decode cX6_regions 65 = .ok (.iaload, 1) := by decide +kernel
theorem dX6_regions_66 : decode cX6_regions 66 = .ok (.iconst 1, 1) := by decide +kernel
theorem dX6_regions_67 : decode cX6_regions 67 = .ok (.if_icmp .ne 11, 3) := by decide +kernel
theorem dX6_regions_70 : decode cX6_regions 70 = .ok (.iinc 2 1, 3) := by decide +kernel
theorem dX6_regions_73 : decode cX6_regions 73 = .ok (.aload_n 0, 1) := by decide +kernel
theorem dX6_regions_74 : decode cX6_regions 74 = .ok (.iload_n 3, 1) := by decide +kernel
theorem dX6_regions_75 : decode cX6_regions 75 = .ok (.invokevirtual 188, 3) := by decide +kernel
theorem dX6_regions_78 : decode cX6_regions 78 = .ok (.iinc 3 1, 3) := by decide +kernel
theorem dX6_regions_81 : decode cX6_regions 81 = .ok (.goto (-28), 3) := by decide +kernel
theorem dX6_regions_84 : decode cX6_regions 84 = .ok (.iload_n 2, 1) := by decide +kernel
theorem dX6_regions_85 : decode cX6_regions 85 = .ok (.ireturn, 1) := by decide +kernel
theorem dX6_isConsistent_0 : decode cX6_isConsistent 0 = .ok (.iconst 0, 1) := by decide +kernel
theorem dX6_isConsistent_1 : decode cX6_isConsistent 1 = .ok (.istore_n 1, 1) := by decide +kernel
theorem dX6_isConsistent_2 : decode cX6_isConsistent 2 = .ok (.iload_n 1, 1) := by decide +kernel
theorem dX6_isConsistent_3 : decode cX6_isConsistent 3 = .ok (.iconst 4, 1) := by decide +kernel
theorem dX6_isConsistent_4 : decode cX6_isConsistent 4 = .ok (.if_icmp .ge 60, 3) := by decide +kernel
theorem dX6_isConsistent_7 : decode cX6_isConsistent 7 = .ok (.aload_n 0, 1) := by decide +kernel
theorem dX6_isConsistent_8 : decode cX6_isConsistent 8 = .ok (.getfield 24, 3) := by decide +kernel
theorem dX6_isConsistent_11 : decode cX6_isConsistent 11 = .ok (.aload_n 0, 1) := by decide +kernel
theorem dX6_isConsistent_12 : decode cX6_isConsistent 12 = .ok (.getfield 12, 3) := by decide +kernel
theorem dX6_isConsistent_15 : decode cX6_isConsistent 15 = .ok (.iload_n 1, 1) := by decide +kernel
theorem dX6_isConsistent_16 : decode cX6_isConsistent 16 = .ok (.iconst (-1), 1) := by decide +kernel
theorem dX6_isConsistent_17 : decode cX6_isConsistent 17 = .ok (.aload_n 0, 1) := by decide +kernel
theorem dX6_isConsistent_18 : decode cX6_isConsistent 18 = .ok (.getfield 28, 3) := by decide +kernel
theorem dX6_isConsistent_21 : decode cX6_isConsistent 21 = .ok (.invokevirtual 172, 3) := by decide +kernel
theorem dX6_isConsistent_24 : decode cX6_isConsistent 24 = .ok (.iconst 0, 1) := by decide +kernel
theorem dX6_isConsistent_25 : decode cX6_isConsistent 25 = .ok (.istore_n 2, 1) := by decide +kernel
theorem dX6_isConsistent_26 : decode cX6_isConsistent 26 = .ok (.iload_n 2, 1) := by decide +kernel
theorem dX6_isConsistent_27 : decode cX6_isConsistent 27 = .ok (.sipush 1152, 3) := by decide +kernel
theorem dX6_isConsistent_30 : decode cX6_isConsistent 30 = .ok (.if_icmp .ge 28, 3) := by decide +kernel
theorem dX6_isConsistent_33 : decode cX6_isConsistent 33 = .ok (.aload_n 0, 1) := by decide +kernel
theorem dX6_isConsistent_34 : decode cX6_isConsistent 34 = .ok (.getfield 28, 3) := by decide +kernel
theorem dX6_isConsistent_37 : decode cX6_isConsistent 37 = .ok (.iload_n 2, 1) := by decide +kernel
theorem dX6_isConsistent_38 : decode cX6_isConsistent 38 = .ok (.iaload, 1) := by decide +kernel
theorem dX6_isConsistent_39 : decode cX6_isConsistent 39 = .ok (.aload_n 0, 1) := by decide +kernel
theorem dX6_isConsistent_40 : decode cX6_isConsistent 40 = .ok (.getfield 18, 3) := by decide +kernel
theorem dX6_isConsistent_43 : decode cX6_isConsistent 43 = .ok (.iload_n 1, 1) := by decide +kernel
theorem dX6_isConsistent_44 : decode cX6_isConsistent 44 = .ok (.aaload, 1) := by decide +kernel
theorem dX6_isConsistent_45 : decode cX6_isConsistent 45 = .ok (.iload_n 2, 1) := by decide +kernel
theorem dX6_isConsistent_46 : decode cX6_isConsistent 46 = .ok (.iaload, 1) := by decide +kernel
theorem dX6_isConsistent_47 : decode cX6_isConsistent 47 = .ok (.if_icmp .eq 5, 3) := by decide +kernel
theorem dX6_isConsistent_50 : decode cX6_isConsistent 50 = .ok (.iconst 0, 1) := by decide +kernel
theorem dX6_isConsistent_51 : decode cX6_isConsistent 51 = .ok (.ireturn, 1) := by decide +kernel
theorem dX6_isConsistent_52 : decode cX6_isConsistent 52 = .ok (.iinc 2 1, 3) := by decide +kernel
theorem dX6_isConsistent_55 : decode cX6_isConsistent 55 = .ok (.goto (-29), 3) := by decide +kernel
theorem dX6_isConsistent_58 : decode cX6_isConsistent 58 = .ok (.iinc 1 1, 3) := by decide +kernel
theorem dX6_isConsistent_61 : decode cX6_isConsistent 61 = .ok (.goto (-59), 3) := by decide +kernel
theorem dX6_isConsistent_64 : decode cX6_isConsistent 64 = .ok (.iconst 1, 1) := by decide +kernel
theorem dX6_isConsistent_65 : decode cX6_isConsistent 65 = .ok (.ireturn, 1) := by decide +kernel
theorem dX6_histogram_0 : decode cX6_histogram 0 = .ok (.iload_n 1, 1) := by decide +kernel
theorem dX6_histogram_1 : decode cX6_histogram 1 = .ok (.invokestatic 119, 3) := by decide +kernel
theorem dX6_histogram_4 : decode cX6_histogram 4 = .ok (.ifCond .ne 5, 3) := by decide +kernel
theorem dX6_histogram_7 : decode cX6_histogram 7 = .ok (.iconst (-1), 1) := by decide +kernel
theorem dX6_histogram_8 : decode cX6_histogram 8 = .ok (.ireturn, 1) := by decide +kernel
theorem dX6_histogram_9 : decode cX6_histogram 9 = .ok (.iload_n 2, 1) := by decide +kernel
theorem dX6_histogram_10 : decode cX6_histogram 10 = .ok (.invokestatic 122, 3) := by decide +kernel
theorem dX6_histogram_13 : decode cX6_histogram 13 = .ok (.ifCond .ne 6, 3) := by decide +kernel
theorem dX6_histogram_16 : decode cX6_histogram 16 = .ok (.bipush (-2), 2) := by decide +kernel
theorem dX6_histogram_18 : decode cX6_histogram 18 = .ok (.ireturn, 1) := by decide +kernel
theorem dX6_histogram_19 : decode cX6_histogram 19 = .ok (.iconst 0, 1) := by decide +kernel
theorem dX6_histogram_20 : decode cX6_histogram 20 = .ok (.istore_n 3, 1) := by decide +kernel
theorem dX6_histogram_21 : decode cX6_histogram 21 = .ok (.iconst 0, 1) := by decide +kernel
theorem dX6_histogram_22 : decode cX6_histogram 22 = .ok (.istore 4, 2) := by decide +kernel
theorem dX6_histogram_24 : decode cX6_histogram 24 = .ok (.iload 4, 2) := by decide +kernel
theorem dX6_histogram_26 : decode cX6_histogram 26 = .ok (.sipush 1152, 3) := by decide +kernel
theorem dX6_histogram_29 : decode cX6_histogram 29 = .ok (.if_icmp .ge 25, 3) := by decide +kernel
theorem dX6_histogram_32 : decode cX6_histogram 32 = .ok (.aload_n 0, 1) := by decide +kernel
theorem dX6_histogram_33 : decode cX6_histogram 33 = .ok (.getfield 18, 3) := by decide +kernel
theorem dX6_histogram_36 : decode cX6_histogram 36 = .ok (.iload_n 1, 1) := by decide +kernel
theorem dX6_histogram_37 : decode cX6_histogram 37 = .ok (.aaload, 1) := by decide +kernel
theorem dX6_histogram_38 : decode cX6_histogram 38 = .ok (.iload 4, 2) := by decide +kernel
theorem dX6_histogram_40 : decode cX6_histogram 40 = .ok (.iaload, 1) := by decide +kernel
theorem dX6_histogram_41 : decode cX6_histogram 41 = .ok (.iload_n 2, 1) := by decide +kernel
theorem dX6_histogram_42 : decode cX6_histogram 42 = .ok (.if_icmp .ne 6, 3) := by decide +kernel
theorem dX6_histogram_45 : decode cX6_histogram 45 = .ok (.iinc 3 1, 3) := by decide +kernel
theorem dX6_histogram_48 : decode cX6_histogram 48 = .ok (.iinc 4 1, 3) := by decide +kernel
theorem dX6_histogram_51 : decode cX6_histogram 51 = .ok (.goto (-27), 3) := by decide +kernel
theorem dX6_histogram_54 : decode cX6_histogram 54 = .ok (.iload_n 3, 1) := by decide +kernel
theorem dX6_histogram_55 : decode cX6_histogram 55 = .ok (.ireturn, 1) := by decide +kernel
theorem dX6_checksum_0 : decode cX6_checksum 0 = .ok (.ldc2_w 192, 3) := by decide +kernel
theorem dX6_checksum_3 : decode cX6_checksum 3 = .ok (.lstore_n 1, 1) := by decide +kernel
theorem dX6_checksum_4 : decode cX6_checksum 4 = .ok (.iconst 0, 1) := by decide +kernel
theorem dX6_checksum_5 : decode cX6_checksum 5 = .ok (.istore_n 3, 1) := by decide +kernel
theorem dX6_checksum_6 : decode cX6_checksum 6 = .ok (.iload_n 3, 1) := by decide +kernel
theorem dX6_checksum_7 : decode cX6_checksum 7 = .ok (.sipush 1152, 3) := by decide +kernel
theorem dX6_checksum_10 : decode cX6_checksum 10 = .ok (.if_icmp .ge 37, 3) := by decide +kernel
theorem dX6_checksum_13 : decode cX6_checksum 13 = .ok (.lload_n 1, 1) := by decide +kernel
theorem dX6_checksum_14 : decode cX6_checksum 14 = .ok (.ldc2_w 194, 3) := by decide +kernel
theorem dX6_checksum_17 : decode cX6_checksum 17 = .ok (.lmul, 1) := by decide +kernel
theorem dX6_checksum_18 : decode cX6_checksum 18 = .ok (.aload_n 0, 1) := by decide +kernel
theorem dX6_checksum_19 : decode cX6_checksum 19 = .ok (.getfield 12, 3) := by decide +kernel
theorem dX6_checksum_22 : decode cX6_checksum 22 = .ok (.getfield 99, 3) := by decide +kernel
theorem dX6_checksum_25 : decode cX6_checksum 25 = .ok (.iload_n 3, 1) := by decide +kernel
theorem dX6_checksum_26 : decode cX6_checksum 26 = .ok (.iaload, 1) := by decide +kernel
theorem dX6_checksum_27 : decode cX6_checksum 27 = .ok (.i2l, 1) := by decide +kernel
theorem dX6_checksum_28 : decode cX6_checksum 28 = .ok (.ladd, 1) := by decide +kernel
theorem dX6_checksum_29 : decode cX6_checksum 29 = .ok (.ldc2_w 196, 3) := by decide +kernel
theorem dX6_checksum_32 : decode cX6_checksum 32 = .ok (.aload_n 0, 1) := by decide +kernel
theorem dX6_checksum_33 : decode cX6_checksum 33 = .ok (.iload_n 3, 1) := by decide +kernel
theorem dX6_checksum_34 : decode cX6_checksum 34 = .ok (.invokevirtual 157, 3) := by decide +kernel
theorem dX6_checksum_37 : decode cX6_checksum 37 = .ok (.i2l, 1) := by decide +kernel
theorem dX6_checksum_38 : decode cX6_checksum 38 = .ok (.lmul, 1) := by decide +kernel
theorem dX6_checksum_39 : decode cX6_checksum 39 = .ok (.ladd, 1) := by decide +kernel
theorem dX6_checksum_40 : decode cX6_checksum 40 = .ok (.lstore_n 1, 1) := by decide +kernel
theorem dX6_checksum_41 : decode cX6_checksum 41 = .ok (.iinc 3 1, 3) := by decide +kernel
theorem dX6_checksum_44 : decode cX6_checksum 44 = .ok (.goto (-38), 3) := by decide +kernel
theorem dX6_checksum_47 : decode cX6_checksum 47 = .ok (.lload_n 1, 1) := by decide +kernel
theorem dX6_checksum_48 : decode cX6_checksum 48 = .ok (.lreturn, 1) := by decide +kernel
theorem dX6_save_0 : decode cX6_save 0 = .ok (.aload_n 0, 1) := by decide +kernel
theorem dX6_save_1 : decode cX6_save 1 = .ok (.getfield 46, 3) := by decide +kernel
theorem dX6_save_4 : decode cX6_save 4 = .ok (.getfield 88, 3) := by decide +kernel
theorem dX6_save_7 : decode cX6_save 7 = .ok (.ifCond .eq 6, 3) := by decide +kernel
theorem dX6_save_10 : decode cX6_save 10 = .ok (.bipush (-5), 2) := by decide +kernel
theorem dX6_save_12 : decode cX6_save 12 = .ok (.ireturn, 1) := by decide +kernel
theorem dX6_save_13 : decode cX6_save 13 = .ok (.aload_n 0, 1) := by decide +kernel
theorem dX6_save_14 : decode cX6_save 14 = .ok (.getfield 57, 3) := by decide +kernel
theorem dX6_save_17 : decode cX6_save 17 = .ok (.aload_n 0, 1) := by decide +kernel
theorem dX6_save_18 : decode cX6_save 18 = .ok (.getfield 12, 3) := by decide +kernel
theorem dX6_save_21 : decode cX6_save 21 = .ok (.invokevirtual 198, 3) := by decide +kernel
theorem dX6_save_24 : decode cX6_save 24 = .ok (.aload_n 0, 1) := by decide +kernel
theorem dX6_save_25 : decode cX6_save 25 = .ok (.iconst 1, 1) := by decide +kernel
theorem dX6_save_26 : decode cX6_save 26 = .ok (.putfield 60, 3) := by decide +kernel
theorem dX6_save_29 : decode cX6_save 29 = .ok (.aload_n 0, 1) := by decide +kernel
theorem dX6_save_30 : decode cX6_save 30 = .ok (.getfield 12, 3) := by decide +kernel
theorem dX6_save_33 : decode cX6_save 33 = .ok (.invokevirtual 201, 3) := by decide +kernel
theorem dX6_save_36 : decode cX6_save 36 = .ok (.ireturn, 1) := by decide +kernel
theorem dX6_restore_0 : decode cX6_restore 0 = .ok (.aload_n 0, 1) := by decide +kernel
theorem dX6_restore_1 : decode cX6_restore 1 = .ok (.getfield 46, 3) := by decide +kernel
theorem dX6_restore_4 : decode cX6_restore 4 = .ok (.getfield 88, 3) := by decide +kernel
theorem dX6_restore_7 : decode cX6_restore 7 = .ok (.ifCond .eq 6, 3) := by decide +kernel
theorem dX6_restore_10 : decode cX6_restore 10 = .ok (.bipush (-5), 2) := by decide +kernel
theorem dX6_restore_12 : decode cX6_restore 12 = .ok (.ireturn, 1) := by decide +kernel
theorem dX6_restore_13 : decode cX6_restore 13 = .ok (.aload_n 0, 1) := by decide +kernel
theorem dX6_restore_14 : decode cX6_restore 14 = .ok (.getfield 60, 3) := by decide +kernel
theorem dX6_restore_17 : decode cX6_restore 17 = .ok (.ifCond .ne 6, 3) := by decide +kernel
theorem dX6_restore_20 : decode cX6_restore 20 = .ok (.bipush (-4), 2) := by decide +kernel
theorem dX6_restore_22 : decode cX6_restore 22 = .ok (.ireturn, 1) := by decide +kernel
theorem dX6_restore_23 : decode cX6_restore 23 = .ok (.aload_n 0, 1) := by decide +kernel
theorem dX6_restore_24 : decode cX6_restore 24 = .ok (.getfield 12, 3) := by decide +kernel
theorem dX6_restore_27 : decode cX6_restore 27 = .ok (.aload_n 0, 1) := by decide +kernel
theorem dX6_restore_28 : decode cX6_restore 28 = .ok (.getfield 57, 3) := by decide +kernel
theorem dX6_restore_31 : decode cX6_restore 31 = .ok (.invokevirtual 198, 3) := by decide +kernel
theorem dX6_restore_34 : decode cX6_restore 34 = .ok (.aload_n 0, 1) := by decide +kernel
theorem dX6_restore_35 : decode cX6_restore 35 = .ok (.getfield 53, 3) := by decide +kernel
theorem dX6_restore_38 : decode cX6_restore 38 = .ok (.iconst 0, 1) := by decide +kernel
theorem dX6_restore_39 : decode cX6_restore 39 = .ok (.putfield 153, 3) := by decide +kernel
theorem dX6_restore_42 : decode cX6_restore 42 = .ok (.aload_n 0, 1) := by decide +kernel
theorem dX6_restore_43 : decode cX6_restore 43 = .ok (.invokevirtual 102, 3) := by decide +kernel
theorem dX6_restore_46 : decode cX6_restore 46 = .ok (.pop, 1) := by decide +kernel
theorem dX6_restore_47 : decode cX6_restore 47 = .ok (.aload_n 0, 1) := by decide +kernel
theorem dX6_restore_48 : decode cX6_restore 48 = .ok (.invokevirtual 204, 3) := by decide +kernel
theorem dX6_restore_51 : decode cX6_restore 51 = .ok (.aload_n 0, 1) := by decide +kernel
theorem dX6_restore_52 : decode cX6_restore 52 = .ok (.getfield 12, 3) := by decide +kernel
theorem dX6_restore_55 : decode cX6_restore 55 = .ok (.invokevirtual 201, 3) := by decide +kernel
theorem dX6_restore_58 : decode cX6_restore 58 = .ok (.ireturn, 1) := by decide +kernel
theorem dX6_isType_0 : decode cX6_isType 0 = .ok (.iload_n 0, 1) := by decide +kernel
theorem dX6_isType_1 : decode cX6_isType 1 = .ok (.ifCond .lt 13, 3) := by decide +kernel
theorem dX6_isType_4 : decode cX6_isType 4 = .ok (.iload_n 0, 1) := by decide +kernel
theorem dX6_isType_5 : decode cX6_isType 5 = .ok (.bipush 8, 2) := by decide +kernel
theorem dX6_isType_7 : decode cX6_isType 7 = .ok (.if_icmp .ge 7, 3) := by decide +kernel
theorem dX6_isType_10 : decode cX6_isType 10 = .ok (.iconst 1, 1) := by decide +kernel
theorem dX6_isType_11 : decode cX6_isType 11 = .ok (.goto 4, 3) := by decide +kernel
theorem dX6_isType_14 : decode cX6_isType 14 = .ok (.iconst 0, 1) := by decide +kernel
theorem dX6_isType_15 : decode cX6_isType 15 = .ok (.ireturn, 1) := by decide +kernel
theorem dX6_isChannel_0 : decode cX6_isChannel 0 = .ok (.iload_n 0, 1) := by decide +kernel
theorem dX6_isChannel_1 : decode cX6_isChannel 1 = .ok (.ifCond .lt 12, 3) := by decide +kernel
theorem dX6_isChannel_4 : decode cX6_isChannel 4 = .ok (.iload_n 0, 1) := by decide +kernel
theorem dX6_isChannel_5 : decode cX6_isChannel 5 = .ok (.iconst 4, 1) := by decide +kernel
theorem dX6_isChannel_6 : decode cX6_isChannel 6 = .ok (.if_icmp .ge 7, 3) := by decide +kernel
theorem dX6_isChannel_9 : decode cX6_isChannel 9 = .ok (.iconst 1, 1) := by decide +kernel
theorem dX6_isChannel_10 : decode cX6_isChannel 10 = .ok (.goto 4, 3) := by decide +kernel
theorem dX6_isChannel_13 : decode cX6_isChannel 13 = .ok (.iconst 0, 1) := by decide +kernel
theorem dX6_isChannel_14 : decode cX6_isChannel 14 = .ok (.ireturn, 1) := by decide +kernel
theorem dX6_isColor_0 : decode cX6_isColor 0 = .ok (.iload_n 0, 1) := by decide +kernel
theorem dX6_isColor_1 : decode cX6_isColor 1 = .ok (.ifCond .lt 12, 3) := by decide +kernel
theorem dX6_isColor_4 : decode cX6_isColor 4 = .ok (.iload_n 0, 1) := by decide +kernel
theorem dX6_isColor_5 : decode cX6_isColor 5 = .ok (.iconst 3, 1) := by decide +kernel
theorem dX6_isColor_6 : decode cX6_isColor 6 = .ok (.if_icmp .ge 7, 3) := by decide +kernel
theorem dX6_isColor_9 : decode cX6_isColor 9 = .ok (.iconst 1, 1) := by decide +kernel
theorem dX6_isColor_10 : decode cX6_isColor 10 = .ok (.goto 4, 3) := by decide +kernel
theorem dX6_isColor_13 : decode cX6_isColor 13 = .ok (.iconst 0, 1) := by decide +kernel
theorem dX6_isColor_14 : decode cX6_isColor 14 = .ok (.ireturn, 1) := by decide +kernel
theorem dX6_isStrength_0 : decode cX6_isStrength 0 = .ok (.iload_n 0, 1) := by decide +kernel
theorem dX6_isStrength_1 : decode cX6_isStrength 1 = .ok (.ifCond .lt 13, 3) := by decide +kernel
theorem dX6_isStrength_4 : decode cX6_isStrength 4 = .ok (.iload_n 0, 1) := by decide +kernel
theorem dX6_isStrength_5 : decode cX6_isStrength 5 = .ok (.bipush 15, 2) := by decide +kernel
theorem dX6_isStrength_7 : decode cX6_isStrength 7 = .ok (.if_icmp .gt 7, 3) := by decide +kernel
theorem dX6_isStrength_10 : decode cX6_isStrength 10 = .ok (.iconst 1, 1) := by decide +kernel
theorem dX6_isStrength_11 : decode cX6_isStrength 11 = .ok (.goto 4, 3) := by decide +kernel
theorem dX6_isStrength_14 : decode cX6_isStrength 14 = .ok (.iconst 0, 1) := by decide +kernel
theorem dX6_isStrength_15 : decode cX6_isStrength 15 = .ok (.ireturn, 1) := by decide +kernel
theorem dX6_isChunk_0 : decode cX6_isChunk 0 = .ok (.iload_n 0, 1) := by decide +kernel
theorem dX6_isChunk_1 : decode cX6_isChunk 1 = .ok (.ifCond .lt 13, 3) := by decide +kernel
theorem dX6_isChunk_4 : decode cX6_isChunk 4 = .ok (.iload_n 0, 1) := by decide +kernel
theorem dX6_isChunk_5 : decode cX6_isChunk 5 = .ok (.bipush 9, 2) := by decide +kernel
theorem dX6_isChunk_7 : decode cX6_isChunk 7 = .ok (.if_icmp .ge 7, 3) := by decide +kernel
theorem dX6_isChunk_10 : decode cX6_isChunk 10 = .ok (.iconst 1, 1) := by decide +kernel
theorem dX6_isChunk_11 : decode cX6_isChunk 11 = .ok (.goto 4, 3) := by decide +kernel
theorem dX6_isChunk_14 : decode cX6_isChunk 14 = .ok (.iconst 0, 1) := by decide +kernel
theorem dX6_isChunk_15 : decode cX6_isChunk 15 = .ok (.ireturn, 1) := by decide +kernel
theorem dX6_clearEffect_0 : decode cX6_clearEffect 0 = .ok (.iconst 0, 1) := by decide +kernel
theorem dX6_clearEffect_1 : decode cX6_clearEffect 1 = .ok (.istore_n 1, 1) := by decide +kernel
theorem dX6_clearEffect_2 : decode cX6_clearEffect 2 = .ok (.iload_n 1, 1) := by decide +kernel
theorem dX6_clearEffect_3 : decode cX6_clearEffect 3 = .ok (.sipush 1152, 3) := by decide +kernel
theorem dX6_clearEffect_6 : decode cX6_clearEffect 6 = .ok (.if_icmp .ge 16, 3) := by decide +kernel
theorem dX6_clearEffect_9 : decode cX6_clearEffect 9 = .ok (.aload_n 0, 1) := by decide +kernel
theorem dX6_clearEffect_10 : decode cX6_clearEffect 10 = .ok (.getfield 35, 3) := by decide +kernel
theorem dX6_clearEffect_13 : decode cX6_clearEffect 13 = .ok (.iload_n 1, 1) := by decide +kernel
theorem dX6_clearEffect_14 : decode cX6_clearEffect 14 = .ok (.iconst 0, 1) := by decide +kernel
theorem dX6_clearEffect_15 : decode cX6_clearEffect 15 = .ok (.bastore, 1) := by decide +kernel
theorem dX6_clearEffect_16 : decode cX6_clearEffect 16 = .ok (.iinc 1 1, 3) := by decide +kernel
theorem dX6_clearEffect_19 : decode cX6_clearEffect 19 = .ok (.goto (-17), 3) := by decide +kernel
theorem dX6_clearEffect_22 : decode cX6_clearEffect 22 = .ok (.aload_n 0, 1) := by decide +kernel
theorem dX6_clearEffect_23 : decode cX6_clearEffect 23 = .ok (.iconst 0, 1) := by decide +kernel
theorem dX6_clearEffect_24 : decode cX6_clearEffect 24 = .ok (.putfield 39, 3) := by decide +kernel
theorem dX6_clearEffect_27 : decode cX6_clearEffect 27 = .ok (.return_, 1) := by decide +kernel
theorem dX6_relight_0 : decode cX6_relight 0 = .ok (.aload_n 0, 1) := by decide +kernel
theorem dX6_relight_1 : decode cX6_relight 1 = .ok (.invokevirtual 204, 3) := by decide +kernel
theorem dX6_relight_4 : decode cX6_relight 4 = .ok (.iconst 0, 1) := by decide +kernel
theorem dX6_relight_5 : decode cX6_relight 5 = .ok (.istore_n 1, 1) := by decide +kernel
theorem dX6_relight_6 : decode cX6_relight 6 = .ok (.iload_n 1, 1) := by decide +kernel
theorem dX6_relight_7 : decode cX6_relight 7 = .ok (.iconst 4, 1) := by decide +kernel
theorem dX6_relight_8 : decode cX6_relight 8 = .ok (.if_icmp .ge 36, 3) := by decide +kernel
theorem dX6_relight_11 : decode cX6_relight 11 = .ok (.aload_n 0, 1) := by decide +kernel
theorem dX6_relight_12 : decode cX6_relight 12 = .ok (.getfield 24, 3) := by decide +kernel
theorem dX6_relight_15 : decode cX6_relight 15 = .ok (.aload_n 0, 1) := by decide +kernel
theorem dX6_relight_16 : decode cX6_relight 16 = .ok (.getfield 12, 3) := by decide +kernel
theorem dX6_relight_19 : decode cX6_relight 19 = .ok (.iload_n 1, 1) := by decide +kernel
theorem dX6_relight_20 : decode cX6_relight 20 = .ok (.iconst (-1), 1) := by decide +kernel
theorem dX6_relight_21 : decode cX6_relight 21 = .ok (.aload_n 0, 1) := by decide +kernel
theorem dX6_relight_22 : decode cX6_relight 22 = .ok (.getfield 28, 3) := by decide +kernel
theorem dX6_relight_25 : decode cX6_relight 25 = .ok (.invokevirtual 172, 3) := by decide +kernel
theorem dX6_relight_28 : decode cX6_relight 28 = .ok (.aload_n 0, 1) := by decide +kernel
theorem dX6_relight_29 : decode cX6_relight 29 = .ok (.aload_n 0, 1) := by decide +kernel
theorem dX6_relight_30 : decode cX6_relight 30 = .ok (.getfield 18, 3) := by decide +kernel
theorem dX6_relight_33 : decode cX6_relight 33 = .ok (.iload_n 1, 1) := by decide +kernel
theorem dX6_relight_34 : decode cX6_relight 34 = .ok (.aaload, 1) := by decide +kernel
theorem dX6_relight_35 : decode cX6_relight 35 = .ok (.invokevirtual 207, 3) := by decide +kernel
theorem dX6_relight_38 : decode cX6_relight 38 = .ok (.iinc 1 1, 3) := by decide +kernel
theorem dX6_relight_41 : decode cX6_relight 41 = .ok (.goto (-35), 3) := by decide +kernel
theorem dX6_relight_44 : decode cX6_relight 44 = .ok (.aload_n 0, 1) := by decide +kernel
theorem dX6_relight_45 : decode cX6_relight 45 = .ok (.getfield 39, 3) := by decide +kernel
theorem dX6_relight_48 : decode cX6_relight 48 = .ok (.ireturn, 1) := by decide +kernel
theorem dX6_takeTrial_0 : decode cX6_takeTrial 0 = .ok (.iconst 0, 1) := by decide +kernel
theorem dX6_takeTrial_1 : decode cX6_takeTrial 1 = .ok (.istore_n 2, 1) := by decide +kernel
theorem dX6_takeTrial_2 : decode cX6_takeTrial 2 = .ok (.iload_n 2, 1) := by decide +kernel
theorem dX6_takeTrial_3 : decode cX6_takeTrial 3 = .ok (.sipush 1152, 3) := by decide +kernel
theorem dX6_takeTrial_6 : decode cX6_takeTrial 6 = .ok (.if_icmp .ge 56, 3) := by decide +kernel
theorem dX6_takeTrial_9 : decode cX6_takeTrial 9 = .ok (.aload_n 1, 1) := by decide +kernel
theorem dX6_takeTrial_10 : decode cX6_takeTrial 10 = .ok (.iload_n 2, 1) := by decide +kernel
theorem dX6_takeTrial_11 : decode cX6_takeTrial 11 = .ok (.iaload, 1) := by decide +kernel
theorem dX6_takeTrial_12 : decode cX6_takeTrial 12 = .ok (.aload_n 0, 1) := by decide +kernel
theorem dX6_takeTrial_13 : decode cX6_takeTrial 13 = .ok (.getfield 28, 3) := by decide +kernel
theorem dX6_takeTrial_16 : decode cX6_takeTrial 16 = .ok (.iload_n 2, 1) := by decide +kernel
theorem dX6_takeTrial_17 : decode cX6_takeTrial 17 = .ok (.iaload, 1) := by decide +kernel
theorem dX6_takeTrial_18 : decode cX6_takeTrial 18 = .ok (.if_icmp .eq 38, 3) := by decide +kernel
theorem dX6_takeTrial_21 : decode cX6_takeTrial 21 = .ok (.aload_n 1, 1) := by decide +kernel
theorem dX6_takeTrial_22 : decode cX6_takeTrial 22 = .ok (.iload_n 2, 1) := by decide +kernel
theorem dX6_takeTrial_23 : decode cX6_takeTrial 23 = .ok (.aload_n 0, 1) := by decide +kernel
theorem dX6_takeTrial_24 : decode cX6_takeTrial 24 = .ok (.getfield 28, 3) := by decide +kernel
theorem dX6_takeTrial_27 : decode cX6_takeTrial 27 = .ok (.iload_n 2, 1) := by decide +kernel
theorem dX6_takeTrial_28 : decode cX6_takeTrial 28 = .ok (.iaload, 1) := by decide +kernel
theorem dX6_takeTrial_29 : decode cX6_takeTrial 29 = .ok (.iastore, 1) := by decide +kernel
theorem dX6_takeTrial_30 : decode cX6_takeTrial 30 = .ok (.aload_n 0, 1) := by decide +kernel
theorem dX6_takeTrial_31 : decode cX6_takeTrial 31 = .ok (.getfield 35, 3) := by decide +kernel
theorem dX6_takeTrial_34 : decode cX6_takeTrial 34 = .ok (.iload_n 2, 1) := by decide +kernel
theorem dX6_takeTrial_35 : decode cX6_takeTrial 35 = .ok (.baload, 1) := by decide +kernel
theorem dX6_takeTrial_36 : decode cX6_takeTrial 36 = .ok (.ifCond .ne 20, 3) := by decide +kernel
theorem dX6_takeTrial_39 : decode cX6_takeTrial 39 = .ok (.aload_n 0, 1) := by decide +kernel
theorem dX6_takeTrial_40 : decode cX6_takeTrial 40 = .ok (.getfield 35, 3) := by decide +kernel
theorem dX6_takeTrial_43 : decode cX6_takeTrial 43 = .ok (.iload_n 2, 1) := by decide +kernel
theorem dX6_takeTrial_44 : decode cX6_takeTrial 44 = .ok (.iconst 1, 1) := by decide +kernel
theorem dX6_takeTrial_45 : decode cX6_takeTrial 45 = .ok (.bastore, 1) := by decide +kernel
theorem dX6_takeTrial_46 : decode cX6_takeTrial 46 = .ok (.aload_n 0, 1) := by decide +kernel
theorem dX6_takeTrial_47 : decode cX6_takeTrial 47 = .ok (.dup, 1) := by decide +kernel
theorem dX6_takeTrial_48 : decode cX6_takeTrial 48 = .ok (.getfield 39, 3) := by decide +kernel
theorem dX6_takeTrial_51 : decode cX6_takeTrial 51 = .ok (.iconst 1, 1) := by decide +kernel
theorem dX6_takeTrial_52 : decode cX6_takeTrial 52 = .ok (.iadd, 1) := by decide +kernel
theorem dX6_takeTrial_53 : decode cX6_takeTrial 53 = .ok (.putfield 39, 3) := by decide +kernel
theorem dX6_takeTrial_56 : decode cX6_takeTrial 56 = .ok (.iinc 2 1, 3) := by decide +kernel
theorem dX6_takeTrial_59 : decode cX6_takeTrial 59 = .ok (.goto (-57), 3) := by decide +kernel
theorem dX6_takeTrial_62 : decode cX6_takeTrial 62 = .ok (.return_, 1) := by decide +kernel
theorem dX6_packedLights_0 : decode cX6_packedLights 0 = .ok (.aload_n 0, 1) := by decide +kernel
theorem dX6_packedLights_1 : decode cX6_packedLights 1 = .ok (.getfield 18, 3) := by decide +kernel
theorem dX6_packedLights_4 : decode cX6_packedLights 4 = .ok (.iconst 0, 1) := by decide +kernel
theorem dX6_packedLights_5 : decode cX6_packedLights 5 = .ok (.aaload, 1) := by decide +kernel
theorem dX6_packedLights_6 : decode cX6_packedLights 6 = .ok (.iload_n 1, 1) := by decide +kernel
theorem dX6_packedLights_7 : decode cX6_packedLights 7 = .ok (.iaload, 1) := by decide +kernel
theorem dX6_packedLights_8 : decode cX6_packedLights 8 = .ok (.aload_n 0, 1) := by decide +kernel
theorem dX6_packedLights_9 : decode cX6_packedLights 9 = .ok (.getfield 18, 3) := by decide +kernel
theorem dX6_packedLights_12 : decode cX6_packedLights 12 = .ok (.iconst 1, 1) := by decide +kernel
theorem dX6_packedLights_13 : decode cX6_packedLights 13 = .ok (.aaload, 1) := by decide +kernel
theorem dX6_packedLights_14 : decode cX6_packedLights 14 = .ok (.iload_n 1, 1) := by decide +kernel
theorem dX6_packedLights_15 : decode cX6_packedLights 15 = .ok (.iaload, 1) := by decide +kernel
theorem dX6_packedLights_16 : decode cX6_packedLights 16 = .ok (.iconst 4, 1) := by decide +kernel
theorem dX6_packedLights_17 : decode cX6_packedLights 17 = .ok (.ishl, 1) := by decide +kernel
theorem dX6_packedLights_18 : decode cX6_packedLights 18 = .ok (.iadd, 1) := by decide +kernel
theorem dX6_packedLights_19 : decode cX6_packedLights 19 = .ok (.aload_n 0, 1) := by decide +kernel
theorem dX6_packedLights_20 : decode cX6_packedLights 20 = .ok (.getfield 18, 3) := by decide +kernel
theorem dX6_packedLights_23 : decode cX6_packedLights 23 = .ok (.iconst 2, 1) := by decide +kernel
theorem dX6_packedLights_24 : decode cX6_packedLights 24 = .ok (.aaload, 1) := by decide +kernel
theorem dX6_packedLights_25 : decode cX6_packedLights 25 = .ok (.iload_n 1, 1) := by decide +kernel
theorem dX6_packedLights_26 : decode cX6_packedLights 26 = .ok (.iaload, 1) := by decide +kernel
theorem dX6_packedLights_27 : decode cX6_packedLights 27 = .ok (.bipush 8, 2) := by decide +kernel
theorem dX6_packedLights_29 : decode cX6_packedLights 29 = .ok (.ishl, 1) := by decide +kernel
theorem dX6_packedLights_30 : decode cX6_packedLights 30 = .ok (.iadd, 1) := by decide +kernel
theorem dX6_packedLights_31 : decode cX6_packedLights 31 = .ok (.aload_n 0, 1) := by decide +kernel
theorem dX6_packedLights_32 : decode cX6_packedLights 32 = .ok (.getfield 18, 3) := by decide +kernel
theorem dX6_packedLights_35 : decode cX6_packedLights 35 = .ok (.iconst 3, 1) := by decide +kernel
theorem dX6_packedLights_36 : decode cX6_packedLights 36 = .ok (.aaload, 1) := by decide +kernel
theorem dX6_packedLights_37 : decode cX6_packedLights 37 = .ok (.iload_n 1, 1) := by decide +kernel
theorem dX6_packedLights_38 : decode cX6_packedLights 38 = .ok (.iaload, 1) := by decide +kernel
theorem dX6_packedLights_39 : decode cX6_packedLights 39 = .ok (.bipush 12, 2) := by decide +kernel
theorem dX6_packedLights_41 : decode cX6_packedLights 41 = .ok (.ishl, 1) := by decide +kernel
theorem dX6_packedLights_42 : decode cX6_packedLights 42 = .ok (.iadd, 1) := by decide +kernel
theorem dX6_packedLights_43 : decode cX6_packedLights 43 = .ok (.ireturn, 1) := by decide +kernel
theorem dX6_brightestColor_0 : decode cX6_brightestColor 0 = .ok (.aload_n 0, 1) := by decide +kernel
theorem dX6_brightestColor_1 : decode cX6_brightestColor 1 = .ok (.getfield 18, 3) := by decide +kernel
theorem dX6_brightestColor_4 : decode cX6_brightestColor 4 = .ok (.iconst 0, 1) := by decide +kernel
theorem dX6_brightestColor_5 : decode cX6_brightestColor 5 = .ok (.aaload, 1) := by decide +kernel
theorem dX6_brightestColor_6 : decode cX6_brightestColor 6 = .ok (.iload_n 1, 1) := by decide +kernel
theorem dX6_brightestColor_7 : decode cX6_brightestColor 7 = .ok (.iaload, 1) := by decide +kernel
theorem dX6_brightestColor_8 : decode cX6_brightestColor 8 = .ok (.aload_n 0, 1) := by decide +kernel
theorem dX6_brightestColor_9 : decode cX6_brightestColor 9 = .ok (.getfield 18, 3) := by decide +kernel
theorem dX6_brightestColor_12 : decode cX6_brightestColor 12 = .ok (.iconst 1, 1) := by decide +kernel
theorem dX6_brightestColor_13 : decode cX6_brightestColor 13 = .ok (.aaload, 1) := by decide +kernel
theorem dX6_brightestColor_14 : decode cX6_brightestColor 14 = .ok (.iload_n 1, 1) := by decide +kernel
theorem dX6_brightestColor_15 : decode cX6_brightestColor 15 = .ok (.iaload, 1) := by decide +kernel
theorem dX6_brightestColor_16 : decode cX6_brightestColor 16 = .ok (.aload_n 0, 1) := by decide +kernel
theorem dX6_brightestColor_17 : decode cX6_brightestColor 17 = .ok (.getfield 18, 3) := by decide +kernel
theorem dX6_brightestColor_20 : decode cX6_brightestColor 20 = .ok (.iconst 2, 1) := by decide +kernel
theorem dX6_brightestColor_21 : decode cX6_brightestColor 21 = .ok (.aaload, 1) := by decide +kernel
theorem dX6_brightestColor_22 : decode cX6_brightestColor 22 = .ok (.iload_n 1, 1) := by decide +kernel
theorem dX6_brightestColor_23 : decode cX6_brightestColor 23 = .ok (.iaload, 1) := by decide +kernel
theorem dX6_brightestColor_24 : decode cX6_brightestColor 24 = .ok (.invokestatic 211, 3) := by decide +kernel
theorem dX6_brightestColor_27 : decode cX6_brightestColor 27 = .ok (.invokestatic 211, 3) := by decide +kernel
theorem dX6_brightestColor_30 : decode cX6_brightestColor 30 = .ok (.ireturn, 1) := by decide +kernel
theorem dX6_originOf_0 : decode cX6_originOf 0 = .ok (.aload_n 0, 1) := by decide +kernel
theorem dX6_originOf_1 : decode cX6_originOf 1 = .ok (.getfield 18, 3) := by decide +kernel
theorem dX6_originOf_4 : decode cX6_originOf 4 = .ok (.iload_n 2, 1) := by decide +kernel
theorem dX6_originOf_5 : decode cX6_originOf 5 = .ok (.aaload, 1) := by decide +kernel
theorem dX6_originOf_6 : decode cX6_originOf 6 = .ok (.iload_n 1, 1) := by decide +kernel
theorem dX6_originOf_7 : decode cX6_originOf 7 = .ok (.iaload, 1) := by decide +kernel
theorem dX6_originOf_8 : decode cX6_originOf 8 = .ok (.istore_n 3, 1) := by decide +kernel
theorem dX6_originOf_9 : decode cX6_originOf 9 = .ok (.iload_n 3, 1) := by decide +kernel
theorem dX6_originOf_10 : decode cX6_originOf 10 = .ok (.ifCond .ne 6, 3) := by decide +kernel
theorem dX6_originOf_13 : decode cX6_originOf 13 = .ok (.bipush (-4), 2) := by decide +kernel
theorem dX6_originOf_15 : decode cX6_originOf 15 = .ok (.ireturn, 1) := by decide +kernel
theorem dX6_originOf_16 : decode cX6_originOf 16 = .ok (.iload_n 3, 1) := by decide +kernel
theorem dX6_originOf_17 : decode cX6_originOf 17 = .ok (.aload_n 0, 1) := by decide +kernel
theorem dX6_originOf_18 : decode cX6_originOf 18 = .ok (.getfield 12, 3) := by decide +kernel
theorem dX6_originOf_21 : decode cX6_originOf 21 = .ok (.iload_n 1, 1) := by decide +kernel
theorem dX6_originOf_22 : decode cX6_originOf 22 = .ok (.iload_n 2, 1) := by decide +kernel
theorem dX6_originOf_23 : decode cX6_originOf 23 = .ok (.invokevirtual 216, 3) := by decide +kernel
theorem dX6_originOf_26 : decode cX6_originOf 26 = .ok (.if_icmp .ne 6, 3) := by decide +kernel
theorem dX6_originOf_29 : decode cX6_originOf 29 = .ok (.bipush 6, 2) := by decide +kernel
theorem dX6_originOf_31 : decode cX6_originOf 31 = .ok (.ireturn, 1) := by decide +kernel
theorem dX6_originOf_32 : decode cX6_originOf 32 = .ok (.aload_n 0, 1) := by decide +kernel
theorem dX6_originOf_33 : decode cX6_originOf 33 = .ok (.getfield 12, 3) := by decide +kernel
theorem dX6_originOf_36 : decode cX6_originOf 36 = .ok (.iload_n 1, 1) := by decide +kernel
theorem dX6_originOf_37 : decode cX6_originOf 37 = .ok (.iload_n 2, 1) := by decide +kernel
theorem dX6_originOf_38 : decode cX6_originOf 38 = .ok (.invokevirtual 176, 3) := by decide +kernel
theorem dX6_originOf_41 : decode cX6_originOf 41 = .ok (.istore 4, 2) := by decide +kernel
theorem dX6_originOf_43 : decode cX6_originOf 43 = .ok (.iload_n 2, 1) := by decide +kernel
theorem dX6_originOf_44 : decode cX6_originOf 44 = .ok (.iconst 3, 1) := by decide +kernel
theorem dX6_originOf_45 : decode cX6_originOf 45 = .ok (.if_icmp .ne 62, 3) := by decide +kernel
theorem dX6_originOf_48 : decode cX6_originOf 48 = .ok (.iload_n 1, 1) := by decide +kernel
theorem dX6_originOf_49 : decode cX6_originOf 49 = .ok (.iconst 3, 1) := by decide +kernel
theorem dX6_originOf_50 : decode cX6_originOf 50 = .ok (.invokestatic 185, 3) := by decide +kernel
theorem dX6_originOf_53 : decode cX6_originOf 53 = .ok (.istore 5, 2) := by decide +kernel
theorem dX6_originOf_55 : decode cX6_originOf 55 = .ok (.iload 5, 2) := by decide +kernel
theorem dX6_originOf_57 : decode cX6_originOf 57 = .ok (.iconst (-1), 1) := by decide +kernel
theorem dX6_originOf_58 : decode cX6_originOf 58 = .ok (.if_icmp .ne 15, 3) := by decide +kernel
theorem dX6_originOf_61 : decode cX6_originOf 61 = .ok (.iload_n 3, 1) := by decide +kernel
theorem dX6_originOf_62 : decode cX6_originOf 62 = .ok (.bipush 15, 2) := by decide +kernel
theorem dX6_originOf_64 : decode cX6_originOf 64 = .ok (.iload 4, 2) := by decide +kernel
theorem dX6_originOf_66 : decode cX6_originOf 66 = .ok (.isub, 1) := by decide +kernel
theorem dX6_originOf_67 : decode cX6_originOf 67 = .ok (.if_icmp .ne 6, 3) := by decide +kernel
theorem dX6_originOf_70 : decode cX6_originOf 70 = .ok (.bipush 7, 2) := by decide +kernel
theorem dX6_originOf_72 : decode cX6_originOf 72 = .ok (.ireturn, 1) := by decide +kernel
theorem dX6_originOf_73 : decode cX6_originOf 73 = .ok (.iload 5, 2) := by decide +kernel
theorem dX6_originOf_75 : decode cX6_originOf 75 = .ok (.iconst (-1), 1) := by decide +kernel
theorem dX6_originOf_76 : decode cX6_originOf 76 = .ok (.if_icmp .eq 31, 3) := by decide +kernel
theorem dX6_originOf_79 : decode cX6_originOf 79 = .ok (.iload_n 3, 1) := by decide +kernel
theorem dX6_originOf_80 : decode cX6_originOf 80 = .ok (.bipush 15, 2) := by decide +kernel
theorem dX6_originOf_82 : decode cX6_originOf 82 = .ok (.if_icmp .ne 25, 3) := by decide +kernel
theorem dX6_originOf_85 : decode cX6_originOf 85 = .ok (.aload_n 0, 1) := by decide +kernel
theorem dX6_originOf_86 : decode cX6_originOf 86 = .ok (.getfield 18, 3) := by decide +kernel
theorem dX6_originOf_89 : decode cX6_originOf 89 = .ok (.iconst 3, 1) := by decide +kernel
theorem dX6_originOf_90 : decode cX6_originOf 90 = .ok (.aaload, 1) := by decide +kernel
theorem dX6_originOf_91 : decode cX6_originOf 91 = .ok (.iload 5, 2) := by decide +kernel
theorem dX6_originOf_93 : decode cX6_originOf 93 = .ok (.iaload, 1) := by decide +kernel
theorem dX6_originOf_94 : decode cX6_originOf 94 = .ok (.bipush 15, 2) := by decide +kernel
theorem dX6_originOf_96 : decode cX6_originOf 96 = .ok (.if_icmp .ne 11, 3) := by decide +kernel
theorem dX6_originOf_99 : decode cX6_originOf 99 = .ok (.iload 4, 2) := by decide +kernel
theorem dX6_originOf_101 : decode cX6_originOf 101 = .ok (.ifCond .ne 6, 3) := by decide +kernel
theorem dX6_originOf_104 : decode cX6_originOf 104 = .ok (.bipush 8, 2) := by decide +kernel
theorem dX6_originOf_106 : decode cX6_originOf 106 = .ok (.ireturn, 1) := by decide +kernel
theorem dX6_originOf_107 : decode cX6_originOf 107 = .ok (.iconst 0, 1) := by decide +kernel
theorem dX6_originOf_108 : decode cX6_originOf 108 = .ok (.istore 5, 2) := by decide +kernel
theorem dX6_originOf_110 : decode cX6_originOf 110 = .ok (.iload 5, 2) := by decide +kernel
theorem dX6_originOf_112 : decode cX6_originOf 112 = .ok (.bipush 6, 2) := by decide +kernel
theorem dX6_originOf_114 : decode cX6_originOf 114 = .ok (.if_icmp .ge 44, 3) := by decide +kernel
theorem dX6_originOf_117 : decode cX6_originOf 117 = .ok (.iload_n 1, 1) := by decide +kernel
theorem dX6_originOf_118 : decode cX6_originOf 118 = .ok (.iload 5, 2) := by decide +kernel
theorem dX6_originOf_120 : decode cX6_originOf 120 = .ok (.invokestatic 185, 3) := by decide +kernel
theorem dX6_originOf_123 : decode cX6_originOf 123 = .ok (.istore 6, 2) := by decide +kernel
theorem dX6_originOf_125 : decode cX6_originOf 125 = .ok (.iload 6, 2) := by decide +kernel
theorem dX6_originOf_127 : decode cX6_originOf 127 = .ok (.iconst (-1), 1) := by decide +kernel
theorem dX6_originOf_128 : decode cX6_originOf 128 = .ok (.if_icmp .eq 24, 3) := by decide +kernel
theorem dX6_originOf_131 : decode cX6_originOf 131 = .ok (.aload_n 0, 1) := by decide +kernel
theorem dX6_originOf_132 : decode cX6_originOf 132 = .ok (.getfield 18, 3) := by decide +kernel
theorem dX6_originOf_135 : decode cX6_originOf 135 = .ok (.iload_n 2, 1) := by decide +kernel
theorem dX6_originOf_136 : decode cX6_originOf 136 = .ok (.aaload, 1) := by decide +kernel
theorem dX6_originOf_137 : decode cX6_originOf 137 = .ok (.iload 6, 2) := by decide +kernel
theorem dX6_originOf_139 : decode cX6_originOf 139 = .ok (.iaload, 1) := by decide +kernel
theorem dX6_originOf_140 : decode cX6_originOf 140 = .ok (.iconst 1, 1) := by decide +kernel
theorem dX6_originOf_141 : decode cX6_originOf 141 = .ok (.isub, 1) := by decide +kernel
theorem dX6_originOf_142 : decode cX6_originOf 142 = .ok (.iload 4, 2) := by decide +kernel
theorem dX6_originOf_144 : decode cX6_originOf 144 = .ok (.isub, 1) := by decide +kernel
theorem dX6_originOf_145 : decode cX6_originOf 145 = .ok (.iload_n 3, 1) := by decide +kernel
theorem dX6_originOf_146 : decode cX6_originOf 146 = .ok (.if_icmp .ne 6, 3) := by decide +kernel
theorem dX6_originOf_149 : decode cX6_originOf 149 = .ok (.iload 5, 2) := by decide +kernel
theorem dX6_originOf_151 : decode cX6_originOf 151 = .ok (.ireturn, 1) := by decide +kernel
theorem dX6_originOf_152 : decode cX6_originOf 152 = .ok (.iinc 5 1, 3) := by decide +kernel
theorem dX6_originOf_155 : decode cX6_originOf 155 = .ok (.goto (-45), 3) := by decide +kernel
theorem dX6_originOf_158 : decode cX6_originOf 158 = .ok (.bipush (-4), 2) := by decide +kernel
theorem dX6_originOf_160 : decode cX6_originOf 160 = .ok (.ireturn, 1) := by decide +kernel
theorem dX6_giverOf_0 : decode cX6_giverOf 0 = .ok (.aload_n 0, 1) := by decide +kernel
theorem dX6_giverOf_1 : decode cX6_giverOf 1 = .ok (.iload_n 1, 1) := by decide +kernel
theorem dX6_giverOf_2 : decode cX6_giverOf 2 = .ok (.iload_n 2, 1) := by decide +kernel
theorem dX6_giverOf_3 : decode cX6_giverOf 3 = .ok (.invokevirtual 160, 3) := by decide +kernel
theorem dX6_giverOf_6 : decode cX6_giverOf 6 = .ok (.istore_n 3, 1) := by decide +kernel
theorem dX6_giverOf_7 : decode cX6_giverOf 7 = .ok (.iload_n 3, 1) := by decide +kernel
theorem dX6_giverOf_8 : decode cX6_giverOf 8 = .ok (.bipush 8, 2) := by decide +kernel
theorem dX6_giverOf_10 : decode cX6_giverOf 10 = .ok (.if_icmp .ne 9, 3) := by decide +kernel
theorem dX6_giverOf_13 : decode cX6_giverOf 13 = .ok (.iload_n 1, 1) := by decide +kernel
theorem dX6_giverOf_14 : decode cX6_giverOf 14 = .ok (.iconst 3, 1) := by decide +kernel
theorem dX6_giverOf_15 : decode cX6_giverOf 15 = .ok (.invokestatic 185, 3) := by decide +kernel
theorem dX6_giverOf_18 : decode cX6_giverOf 18 = .ok (.ireturn, 1) := by decide +kernel
theorem dX6_giverOf_19 : decode cX6_giverOf 19 = .ok (.iload_n 3, 1) := by decide +kernel
theorem dX6_giverOf_20 : decode cX6_giverOf 20 = .ok (.ifCond .lt 17, 3) := by decide +kernel
theorem dX6_giverOf_23 : decode cX6_giverOf 23 = .ok (.iload_n 3, 1) := by decide +kernel
theorem dX6_giverOf_24 : decode cX6_giverOf 24 = .ok (.bipush 6, 2) := by decide +kernel
theorem dX6_giverOf_26 : decode cX6_giverOf 26 = .ok (.if_icmp .ge 11, 3) := by decide +kernel
theorem dX6_giverOf_29 : decode cX6_giverOf 29 = .ok (.iload_n 1, 1) := by decide +kernel
theorem dX6_giverOf_30 : decode cX6_giverOf 30 = .ok (.iload_n 3, 1) := by decide +kernel
theorem dX6_giverOf_31 : decode cX6_giverOf 31 = .ok (.invokestatic 185, 3) := by decide +kernel
theorem dX6_giverOf_34 : decode cX6_giverOf 34 = .ok (.goto 4, 3) := by decide +kernel
theorem dX6_giverOf_37 : decode cX6_giverOf 37 = .ok (.iconst (-1), 1) := by decide +kernel
theorem dX6_giverOf_38 : decode cX6_giverOf 38 = .ok (.ireturn, 1) := by decide +kernel
theorem dX6_leaveRegion_0 : decode cX6_leaveRegion 0 = .ok (.iconst 1, 1) := by decide +kernel
theorem dX6_leaveRegion_1 : decode cX6_leaveRegion 1 = .ok (.istore_n 2, 1) := by decide +kernel
theorem dX6_leaveRegion_2 : decode cX6_leaveRegion 2 = .ok (.aload_n 0, 1) := by decide +kernel
theorem dX6_leaveRegion_3 : decode cX6_leaveRegion 3 = .ok (.getfield 32, 3) := by decide +kernel
theorem dX6_leaveRegion_6 : decode cX6_leaveRegion 6 = .ok (.iconst 0, 1) := by decide +kernel
theorem dX6_leaveRegion_7 : decode cX6_leaveRegion 7 = .ok (.iload_n 1, 1) := by decide +kernel
theorem dX6_leaveRegion_8 : decode cX6_leaveRegion 8 = .ok (.iastore, 1) := by decide +kernel
theorem dX6_leaveRegion_9 : decode cX6_leaveRegion 9 = .ok (.aload_n 0, 1) := by decide +kernel
theorem dX6_leaveRegion_10 : decode cX6_leaveRegion 10 = .ok (.getfield 28, 3) := by decide +kernel
theorem dX6_leaveRegion_13 : decode cX6_leaveRegion 13 = .ok (.iload_n 1, 1) := by decide +kernel
theorem dX6_leaveRegion_14 : decode cX6_leaveRegion 14 = .ok (.iconst 0, 1) := by decide +kernel
theorem dX6_leaveRegion_15 : decode cX6_leaveRegion 15 = .ok (.iastore, 1) := by decide +kernel
theorem dX6_leaveRegion_16 : decode cX6_leaveRegion 16 = .ok (.iconst 0, 1) := by decide +kernel
theorem dX6_leaveRegion_17 : decode cX6_leaveRegion 17 = .ok (.istore_n 3, 1) := by decide +kernel
theorem dX6_leaveRegion_18 : decode cX6_leaveRegion 18 = .ok (.iload_n 3, 1) := by decide +kernel
theorem dX6_leaveRegion_19 : decode cX6_leaveRegion 19 = .ok (.iload_n 2, 1) := by decide +kernel
theorem dX6_leaveRegion_20 : decode cX6_leaveRegion 20 = .ok (.if_icmp .ge 88, 3) := by decide +kernel
theorem dX6_leaveRegion_23 : decode cX6_leaveRegion 23 = .ok (.iload_n 3, 1) := by decide +kernel
theorem dX6_leaveRegion_24 : decode cX6_leaveRegion 24 = .ok (.sipush 1152, 3) := by decide +kernel
theorem dX6_leaveRegion_27 : decode cX6_leaveRegion 27 = .ok (.if_icmp .ge 81, 3) := by decide +kernel
theorem dX6_leaveRegion_30 : decode cX6_leaveRegion 30 = .ok (.iconst 0, 1) := by decide +kernel
theorem dX6_leaveRegion_31 : decode cX6_leaveRegion 31 = .ok (.istore 4, 2) := by decide +kernel
theorem dX6_leaveRegion_33 : decode cX6_leaveRegion 33 = .ok (.iload 4, 2) := by decide +kernel
theorem dX6_leaveRegion_35 : decode cX6_leaveRegion 35 = .ok (.bipush 6, 2) := by decide +kernel
theorem dX6_leaveRegion_37 : decode cX6_leaveRegion 37 = .ok (.if_icmp .ge 65, 3) := by decide +kernel
theorem dX6_leaveRegion_40 : decode cX6_leaveRegion 40 = .ok (.aload_n 0, 1) := by decide +kernel
theorem dX6_leaveRegion_41 : decode cX6_leaveRegion 41 = .ok (.getfield 32, 3) := by decide +kernel
theorem dX6_leaveRegion_44 : decode cX6_leaveRegion 44 = .ok (.iload_n 3, 1) := by decide +kernel
theorem dX6_leaveRegion_45 : decode cX6_leaveRegion 45 = .ok (.iaload, 1) := by decide +kernel
theorem dX6_leaveRegion_46 : decode cX6_leaveRegion 46 = .ok (.iload 4, 2) := by decide +kernel
theorem dX6_leaveRegion_48 : decode cX6_leaveRegion 48 = .ok (.invokestatic 185, 3) := by decide +kernel
theorem dX6_leaveRegion_51 : decode cX6_leaveRegion 51 = .ok (.istore 5, 2) := by decide +kernel
theorem dX6_leaveRegion_53 : decode cX6_leaveRegion 53 = .ok (.iload 5, 2) := by decide +kernel
theorem dX6_leaveRegion_55 : decode cX6_leaveRegion 55 = .ok (.iconst (-1), 1) := by decide +kernel
theorem dX6_leaveRegion_56 : decode cX6_leaveRegion 56 = .ok (.if_icmp .eq 40, 3) := by decide +kernel
theorem dX6_leaveRegion_59 : decode cX6_leaveRegion 59 = .ok (.aload_n 0, 1) := by decide +kernel
theorem dX6_leaveRegion_60 : decode cX6_leaveRegion 60 = .ok (.getfield 28, 3) := by decide +kernel
theorem dX6_leaveRegion_63 : decode cX6_leaveRegion 63 = .ok (.iload 5, 2) := by decide +kernel
theorem dX6_leaveRegion_65 : decode cX6_leaveRegion 65 = .ok (.iaload, 1) := by decide +kernel
theorem dX6_leaveRegion_66 : decode cX6_leaveRegion 66 = .ok (.iconst 1, 1) := by decide +kernel
theorem dX6_leaveRegion_67 : decode cX6_leaveRegion 67 = .ok (.if_icmp .ne 29, 3) := by decide +kernel
theorem dX6_leaveRegion_70 : decode cX6_leaveRegion 70 = .ok (.iload_n 2, 1) := by decide +kernel
theorem dX6_leaveRegion_71 : decode cX6_leaveRegion 71 = .ok (.sipush 1152, 3) := by decide +kernel
theorem dX6_leaveRegion_74 : decode cX6_leaveRegion 74 = .ok (.if_icmp .ge 22, 3) := by decide +kernel
theorem dX6_leaveRegion_77 : decode cX6_leaveRegion 77 = .ok (.aload_n 0, 1) := by decide +kernel
theorem dX6_leaveRegion_78 : decode cX6_leaveRegion 78 = .ok (.getfield 28, 3) := by decide +kernel
theorem dX6_leaveRegion_81 : decode cX6_leaveRegion 81 = .ok (.iload 5, 2) := by decide +kernel
theorem dX6_leaveRegion_83 : decode cX6_leaveRegion 83 = .ok (.iconst 0, 1) := by decide +kernel
theorem dX6_leaveRegion_84 : decode cX6_leaveRegion 84 = .ok (.iastore, 1) := by decide +kernel
theorem dX6_leaveRegion_85 : decode cX6_leaveRegion 85 = .ok (.aload_n 0, 1) := by decide +kernel
theorem dX6_leaveRegion_86 : decode cX6_leaveRegion 86 = .ok (.getfield 32, 3) := by decide +kernel
theorem dX6_leaveRegion_89 : decode cX6_leaveRegion 89 = .ok (.iload_n 2, 1) := by decide +kernel
theorem dX6_leaveRegion_90 : decode cX6_leaveRegion 90 = .ok (.iload 5, 2) := by decide +kernel
theorem dX6_leaveRegion_92 : decode cX6_leaveRegion 92 = .ok (.iastore, 1) := by decide +kernel
theorem dX6_leaveRegion_93 : decode cX6_leaveRegion 93 = .ok (.iinc 2 1, 3) := by decide +kernel
theorem dX6_leaveRegion_96 : decode cX6_leaveRegion 96 = .ok (.iinc 4 1, 3) := by decide +kernel
theorem dX6_leaveRegion_99 : decode cX6_leaveRegion 99 = .ok (.goto (-66), 3) := by decide +kernel
theorem dX6_leaveRegion_102 : decode cX6_leaveRegion 102 = .ok (.iinc 3 1, 3) := by decide +kernel
theorem dX6_leaveRegion_105 : decode cX6_leaveRegion 105 = .ok (.goto (-87), 3) := by decide +kernel
theorem dX6_leaveRegion_108 : decode cX6_leaveRegion 108 = .ok (.return_, 1) := by decide +kernel
theorem dX7_init_0 : decode cX7_init 0 = .ok (.aload_n 0, 1) := by decide +kernel
theorem dX7_init_1 : decode cX7_init 1 = .ok (.invokespecial 1, 3) := by decide +kernel
theorem dX7_init_4 : decode cX7_init 4 = .ok (.aload_n 0, 1) := by decide +kernel
theorem dX7_init_5 : decode cX7_init 5 = .ok (.sipush 1216, 3) := by decide +kernel
theorem dX7_init_8 : decode cX7_init 8 = .ok (.newarray .int, 2) := by decide +kernel
theorem dX7_init_10 : decode cX7_init 10 = .ok (.putfield 9, 3) := by decide +kernel
theorem dX7_init_13 : decode cX7_init 13 = .ok (.aload_n 0, 1) := by decide +kernel
theorem dX7_init_14 : decode cX7_init 14 = .ok (.sipush 1216, 3) := by decide +kernel
theorem dX7_init_17 : decode cX7_init 17 = .ok (.newarray .int, 2) := by decide +kernel
theorem dX7_init_19 : decode cX7_init 19 = .ok (.putfield 13, 3) := by decide +kernel
theorem dX7_init_22 : decode cX7_init 22 = .ok (.aload_n 0, 1) := by decide +kernel
theorem dX7_init_23 : decode cX7_init 23 = .ok (.sipush 7296, 3) := by decide +kernel
theorem dX7_init_26 : decode cX7_init 26 = .ok (.newarray .int, 2) := by decide +kernel
theorem dX7_init_28 : decode cX7_init 28 = .ok (.putfield 16, 3) := by decide +kernel
theorem dX7_init_31 : decode cX7_init 31 = .ok (.aload_n 0, 1) := by decide +kernel
theorem dX7_init_32 : decode cX7_init 32 = .ok (.sipush 4608, 3) := by decide +kernel
theorem dX7_init_35 : decode cX7_init 35 = .ok (.newarray .int, 2) := by decide +kernel
theorem dX7_init_37 : decode cX7_init 37 = .ok (.putfield 19, 3) := by decide +kernel
theorem dX7_init_40 : decode cX7_init 40 = .ok (.aload_n 0, 1) := by decide +kernel
theorem dX7_init_41 : decode cX7_init 41 = .ok (.sipush 1152, 3) := by decide +kernel
theorem dX7_init_44 : decode cX7_init 44 = .ok (.newarray .boolean, 2) := by decide +kernel
theorem dX7_init_46 : decode cX7_init 46 = .ok (.putfield 22, 3) := by decide +kernel
theorem dX7_init_49 : decode cX7_init 49 = .ok (.aload_n 0, 1) := by decide +kernel
theorem dX7_init_50 : decode cX7_init 50 = .ok (.sipush 1152, 3) := by decide +kernel
theorem dX7_init_53 : decode cX7_init 53 = .ok (.newarray .int, 2) := by decide +kernel
theorem dX7_init_55 : decode cX7_init 55 = .ok (.putfield 26, 3) := by decide +kernel
theorem dX7_init_58 : decode cX7_init 58 = .ok (.aload_n 0, 1) := by decide +kernel
theorem dX7_init_59 : decode cX7_init 59 = .ok (.iconst (-1), 1) := by decide +kernel
theorem dX7_init_60 : decode cX7_init 60 = .ok (.putfield 29, 3) := by decide +kernel
theorem dX7_init_63 : decode cX7_init 63 = .ok (.aload_n 0, 1) := by decide +kernel
theorem dX7_init_64 : decode cX7_init 64 = .ok (.bipush 40, 2) := by decide +kernel
theorem dX7_init_66 : decode cX7_init 66 = .ok (.newarray .int, 2) := by decide +kernel
theorem dX7_init_68 : decode cX7_init 68 = .ok (.putfield 33, 3) := by decide +kernel
theorem dX7_init_71 : decode cX7_init 71 = .ok (.aload_n 0, 1) := by decide +kernel
theorem dX7_init_72 : decode cX7_init 72 = .ok (.bipush 40, 2) := by decide +kernel
theorem dX7_init_74 : decode cX7_init 74 = .ok (.newarray .int, 2) := by decide +kernel
theorem dX7_init_76 : decode cX7_init 76 = .ok (.putfield 36, 3) := by decide +kernel
theorem dX7_init_79 : decode cX7_init 79 = .ok (.aload_n 0, 1) := by decide +kernel
theorem dX7_init_80 : decode cX7_init 80 = .ok (.bipush 60, 2) := by decide +kernel
theorem dX7_init_82 : decode cX7_init 82 = .ok (.newarray .int, 2) := by decide +kernel
theorem dX7_init_84 : decode cX7_init 84 = .ok (.putfield 39, 3) := by decide +kernel
theorem dX7_init_87 : decode cX7_init 87 = .ok (.aload_n 0, 1) := by decide +kernel
theorem dX7_init_88 : decode cX7_init 88 = .ok (.bipush (-4), 2) := by decide +kernel
theorem dX7_init_90 : decode cX7_init 90 = .ok (.putfield 42, 3) := by decide +kernel
theorem dX7_init_93 : decode cX7_init 93 = .ok (.aload_n 0, 1) := by decide +kernel
theorem dX7_init_94 : decode cX7_init 94 = .ok (.sipush 540, 3) := by decide +kernel
theorem dX7_init_97 : decode cX7_init 97 = .ok (.newarray .int, 2) := by decide +kernel
theorem dX7_init_99 : decode cX7_init 99 = .ok (.putfield 45, 3) := by decide +kernel
theorem dX7_init_102 : decode cX7_init 102 = .ok (.aload_n 0, 1) := by decide +kernel
theorem dX7_init_103 : decode cX7_init 103 = .ok (.sipush 1152, 3) := by decide +kernel
theorem dX7_init_106 : decode cX7_init 106 = .ok (.newarray .boolean, 2) := by decide +kernel
theorem dX7_init_108 : decode cX7_init 108 = .ok (.putfield 48, 3) := by decide +kernel
theorem dX7_init_111 : decode cX7_init 111 = .ok (.aload_n 0, 1) := by decide +kernel
theorem dX7_init_112 : decode cX7_init 112 = .ok (.sipush 1152, 3) := by decide +kernel
theorem dX7_init_115 : decode cX7_init 115 = .ok (.newarray .int, 2) := by decide +kernel
theorem dX7_init_117 : decode cX7_init 117 = .ok (.putfield 51, 3) := by decide +kernel
theorem dX7_init_120 : decode cX7_init 120 = .ok (.iconst 0, 1) := by decide +kernel
theorem dX7_init_121 : decode cX7_init 121 = .ok (.istore_n 1, 1) := by decide +kernel
theorem dX7_init_122 : decode cX7_init 122 = .ok (.iload_n 1, 1) := by decide +kernel
theorem dX7_init_123 : decode cX7_init 123 = .ok (.iconst 4, 1) := by decide +kernel
theorem dX7_init_124 : decode cX7_init 124 = .ok (.if_icmp .ge 21, 3) := by decide +kernel
theorem dX7_init_127 : decode cX7_init 127 = .ok (.aload_n 0, 1) := by decide +kernel
theorem dX7_init_128 : decode cX7_init 128 = .ok (.getfield 9, 3) := by decide +kernel
theorem dX7_init_131 : decode cX7_init 131 = .ok (.sipush 1156, 3) := by decide +kernel
theorem dX7_init_134 : decode cX7_init 134 = .ok (.iload_n 1, 1) := by decide +kernel
theorem dX7_init_135 : decode cX7_init 135 = .ok (.iadd, 1) := by decide +kernel
theorem dX7_init_136 : decode cX7_init 136 = .ok (.bipush 15, 2) := by decide +kernel
theorem dX7_init_138 : decode cX7_init 138 = .ok (.iastore, 1) := by decide +kernel
theorem dX7_init_139 : decode cX7_init 139 = .ok (.iinc 1 1, 3) := by decide +kernel
theorem dX7_init_142 : decode cX7_init 142 = .ok (.goto (-20), 3) := by decide +kernel
theorem dX7_init_145 : decode cX7_init 145 = .ok (.aload_n 0, 1) := by decide +kernel
theorem dX7_init_146 : decode cX7_init 146 = .ok (.invokevirtual 54, 3) := by decide +kernel
theorem dX7_init_149 : decode cX7_init 149 = .ok (.return_, 1) := by decide +kernel
theorem dX7_in_0 : decode cX7_in 0 = .ok (.iload_n 0, 1) := by decide +kernel
theorem dX7_in_1 : decode cX7_in 1 = .ok (.iload_n 1, 1) := by decide +kernel
theorem dX7_in_2 : decode cX7_in 2 = .ok (.if_icmp .lt 12, 3) := by decide +kernel
theorem dX7_in_5 : decode cX7_in 5 = .ok (.iload_n 0, 1) := by decide +kernel
theorem dX7_in_6 : decode cX7_in 6 = .ok (.iload_n 2, 1) := by decide +kernel
theorem dX7_in_7 : decode cX7_in 7 = .ok (.if_icmp .gt 7, 3) := by decide +kernel
theorem dX7_in_10 : decode cX7_in 10 = .ok (.iconst 1, 1) := by decide +kernel
theorem dX7_in_11 : decode cX7_in 11 = .ok (.goto 4, 3) := by decide +kernel
theorem dX7_in_14 : decode cX7_in 14 = .ok (.iconst 0, 1) := by decide +kernel
theorem dX7_in_15 : decode cX7_in 15 = .ok (.ireturn, 1) := by decide +kernel
theorem dX7_isCell_0 : decode cX7_isCell 0 = .ok (.iload_n 0, 1) := by decide +kernel
theorem dX7_isCell_1 : decode cX7_isCell 1 = .ok (.iconst 0, 1) := by decide +kernel
theorem dX7_isCell_2 : decode cX7_isCell 2 = .ok (.bipush 11, 2) := by decide +kernel
theorem dX7_isCell_4 : decode cX7_isCell 4 = .ok (.invokestatic 57, 3) := by decide +kernel
theorem dX7_isCell_7 : decode cX7_isCell 7 = .ok (.ifCond .eq 27, 3) := by decide +kernel
theorem dX7_isCell_10 : decode cX7_isCell 10 = .ok (.iload_n 1, 1) := by decide +kernel
theorem dX7_isCell_11 : decode cX7_isCell 11 = .ok (.iconst 0, 1) := by decide +kernel
theorem dX7_isCell_12 : decode cX7_isCell 12 = .ok (.bipush 7, 2) := by decide +kernel
theorem dX7_isCell_14 : decode cX7_isCell 14 = .ok (.invokestatic 57, 3) := by decide +kernel
theorem dX7_isCell_17 : decode cX7_isCell 17 = .ok (.ifCond .eq 17, 3) := by decide +kernel
theorem dX7_isCell_20 : decode cX7_isCell 20 = .ok (.iload_n 2, 1) := by decide +kernel
theorem dX7_isCell_21 : decode cX7_isCell 21 = .ok (.iconst 0, 1) := by decide +kernel
theorem dX7_isCell_22 : decode cX7_isCell 22 = .ok (.bipush 11, 2) := by decide +kernel
theorem dX7_isCell_24 : decode cX7_isCell 24 = .ok (.invokestatic 57, 3) := by decide +kernel
theorem dX7_isCell_27 : decode cX7_isCell 27 = .ok (.ifCond .eq 7, 3) := by decide +kernel
theorem dX7_isCell_30 : decode cX7_isCell 30 = .ok (.iconst 1, 1) := by decide +kernel
theorem dX7_isCell_31 : decode cX7_isCell 31 = .ok (.goto 4, 3) := by decide +kernel
theorem dX7_isCell_34 : decode cX7_isCell 34 = .ok (.iconst 0, 1) := by decide +kernel
theorem dX7_isCell_35 : decode cX7_isCell 35 = .ok (.ireturn, 1) := by decide +kernel
theorem dX7_cell_0 : decode cX7_cell 0 = .ok (.iload_n 2, 1) := by decide +kernel
theorem dX7_cell_1 : decode cX7_cell 1 = .ok (.bipush 8, 2) := by decide +kernel
theorem dX7_cell_3 : decode cX7_cell 3 = .ok (.imul, 1) := by decide +kernel
theorem dX7_cell_4 : decode cX7_cell 4 = .ok (.iload_n 1, 1) := by decide +kernel
theorem dX7_cell_5 : decode cX7_cell 5 = .ok (.iadd, 1) := by decide +kernel
theorem dX7_cell_6 : decode cX7_cell 6 = .ok (.bipush 12, 2) := by decide +kernel
theorem dX7_cell_8 : decode cX7_cell 8 = .ok (.imul, 1) := by decide +kernel
theorem dX7_cell_9 : decode cX7_cell 9 = .ok (.iload_n 0, 1) := by decide +kernel
theorem dX7_cell_10 : decode cX7_cell 10 = .ok (.iadd, 1) := by decide +kernel
theorem dX7_cell_11 : decode cX7_cell 11 = .ok (.ireturn, 1) := by decide +kernel
theorem dX7_xOf_0 : decode cX7_xOf 0 = .ok (.iload_n 0, 1) := by decide +kernel
theorem dX7_xOf_1 : decode cX7_xOf 1 = .ok (.bipush 12, 2) := by decide +kernel
theorem dX7_xOf_3 : decode cX7_xOf 3 = .ok (.irem, 1) := by decide +kernel
theorem dX7_xOf_4 : decode cX7_xOf 4 = .ok (.ireturn, 1) := by decide +kernel
theorem dX7_yOf_0 : decode cX7_yOf 0 = .ok (.iload_n 0, 1) := by decide +kernel
theorem dX7_yOf_1 : decode cX7_yOf 1 = .ok (.bipush 12, 2) := by decide +kernel
theorem dX7_yOf_3 : decode cX7_yOf 3 = .ok (.idiv, 1) := by decide +kernel
theorem dX7_yOf_4 : decode cX7_yOf 4 = .ok (.bipush 8, 2) := by decide +kernel
theorem dX7_yOf_6 : decode cX7_yOf 6 = .ok (.irem, 1) := by decide +kernel
theorem dX7_yOf_7 : decode cX7_yOf 7 = .ok (.ireturn, 1) := by decide +kernel
theorem dX7_zOf_0 : decode cX7_zOf 0 = .ok (.iload_n 0, 1) := by decide +kernel
theorem dX7_zOf_1 : decode cX7_zOf 1 = .ok (.bipush 96, 2) := by decide +kernel
theorem dX7_zOf_3 : decode cX7_zOf 3 = .ok (.idiv, 1) := by decide +kernel
theorem dX7_zOf_4 : decode cX7_zOf 4 = .ok (.ireturn, 1) := by decide +kernel
theorem dX7_code_0 : decode cX7_code 0 = .ok (.bipush 100, 2) := by decide +kernel
theorem dX7_code_2 : decode cX7_code 2 = .ok (.iload_n 0, 1) := by decide +kernel
theorem dX7_code_3 : decode cX7_code 3 = .ok (.invokestatic 61, 3) := by decide +kernel
theorem dX7_code_6 : decode cX7_code 6 = .ok (.imul, 1) := by decide +kernel
theorem dX7_code_7 : decode cX7_code 7 = .ok (.bipush 12, 2) := by decide +kernel
theorem dX7_code_9 : decode cX7_code 9 = .ok (.iload_n 0, 1) := by decide +kernel
theorem dX7_code_10 : decode cX7_code 10 = .ok (.invokestatic 65, 3) := by decide +kernel
theorem dX7_code_13 : decode cX7_code 13 = .ok (.imul, 1) := by decide +kernel
theorem dX7_code_14 : decode cX7_code 14 = .ok (.iadd, 1) := by decide +kernel
theorem dX7_code_15 : decode cX7_code 15 = .ok (.iload_n 0, 1) := by decide +kernel
theorem dX7_code_16 : decode cX7_code 16 = .ok (.invokestatic 68, 3) := by decide +kernel
theorem dX7_code_19 : decode cX7_code 19 = .ok (.iadd, 1) := by decide +kernel
theorem dX7_code_20 : decode cX7_code 20 = .ok (.ireturn, 1) := by decide +kernel
theorem dX7_chunkOf_0 : decode cX7_chunkOf 0 = .ok (.iconst 3, 1) := by decide +kernel
theorem dX7_chunkOf_1 : decode cX7_chunkOf 1 = .ok (.iload_n 0, 1) := by decide +kernel
theorem dX7_chunkOf_2 : decode cX7_chunkOf 2 = .ok (.invokestatic 61, 3) := by decide +kernel
theorem dX7_chunkOf_5 : decode cX7_chunkOf 5 = .ok (.iconst 4, 1) := by decide +kernel
theorem dX7_chunkOf_6 : decode cX7_chunkOf 6 = .ok (.idiv, 1) := by decide +kernel
theorem dX7_chunkOf_7 : decode cX7_chunkOf 7 = .ok (.imul, 1) := by decide +kernel
theorem dX7_chunkOf_8 : decode cX7_chunkOf 8 = .ok (.iload_n 0, 1) := by decide +kernel
theorem dX7_chunkOf_9 : decode cX7_chunkOf 9 = .ok (.invokestatic 68, 3) := by decide +kernel
theorem dX7_chunkOf_12 : decode cX7_chunkOf 12 = .ok (.iconst 4, 1) := by decide +kernel
theorem dX7_chunkOf_13 : decode cX7_chunkOf 13 = .ok (.idiv, 1) := by decide +kernel
theorem dX7_chunkOf_14 : decode cX7_chunkOf 14 = .ok (.iadd, 1) := by decide +kernel
theorem dX7_chunkOf_15 : decode cX7_chunkOf 15 = .ok (.ireturn, 1) := by decide +kernel
theorem dX7_next_0 : decode cX7_next 0 = .ok (.iload_n 1, 1) := by decide +kernel
theorem dX7_next_1 : decode cX7_next 1 = .ok (.iconst 2, 1) := by decide +kernel
theorem dX7_next_2 : decode cX7_next 2 = .ok (.irem, 1) := by decide +kernel
theorem dX7_next_3 : decode cX7_next 3 = .ok (.ifCond .ne 7, 3) := by decide +kernel
theorem dX7_next_6 : decode cX7_next 6 = .ok (.iconst (-1), 1) := by decide +kernel
theorem dX7_next_7 : decode cX7_next 7 = .ok (.goto 4, 3) := by decide +kernel
theorem dX7_next_10 : decode cX7_next 10 = .ok (.iconst 1, 1) := by decide +kernel
theorem dX7_next_11 : decode cX7_next 11 = .ok (.istore_n 2, 1) := by decide +kernel
theorem dX7_next_12 : decode cX7_next 12 = .ok (.iload_n 0, 1) := by decide +kernel
theorem dX7_next_13 : decode cX7_next 13 = .ok (.invokestatic 68, 3) := by decide +kernel
theorem dX7_next_16 : decode cX7_next 16 = .ok (.iload_n 1, 1) := by decide +kernel
theorem dX7_next_17 : decode cX7_next 17 = .ok (.iconst 2, 1) := by decide +kernel
theorem dX7_next_18 : decode cX7_next 18 = .ok (.if_icmp .ge 7, 3) := by decide +kernel
theorem dX7_next_21 : decode cX7_next 21 = .ok (.iload_n 2, 1) := by decide +kernel
theorem dX7_next_22 : decode cX7_next 22 = .ok (.goto 4, 3) := by decide +kernel
theorem dX7_next_25 : decode cX7_next 25 = .ok (.iconst 0, 1) := by decide +kernel
theorem dX7_next_26 : decode cX7_next 26 = .ok (.iadd, 1) := by decide +kernel
theorem dX7_next_27 : decode cX7_next 27 = .ok (.istore_n 3, 1) := by decide +kernel
theorem dX7_next_28 : decode cX7_next 28 = .ok (.iload_n 0, 1) := by decide +kernel
theorem dX7_next_29 : decode cX7_next 29 = .ok (.invokestatic 65, 3) := by decide +kernel
theorem dX7_next_32 : decode cX7_next 32 = .ok (.iload_n 1, 1) := by decide +kernel
theorem dX7_next_33 : decode cX7_next 33 = .ok (.iconst 2, 1) := by decide +kernel
theorem dX7_next_34 : decode cX7_next 34 = .ok (.if_icmp .eq 8, 3) := by decide +kernel
theorem dX7_next_37 : decode cX7_next 37 = .ok (.iload_n 1, 1) := by decide +kernel
theorem dX7_next_38 : decode cX7_next 38 = .ok (.iconst 3, 1) := by decide +kernel
theorem dX7_next_39 : decode cX7_next 39 = .ok (.if_icmp .ne 7, 3) := by decide +kernel
theorem dX7_next_42 : decode cX7_next 42 = .ok (.iload_n 2, 1) := by decide +kernel
theorem dX7_next_43 : decode cX7_next 43 = .ok (.goto 4, 3) := by decide +kernel
theorem dX7_next_46 : decode cX7_next 46 = .ok (.iconst 0, 1) := by decide +kernel
theorem dX7_next_47 : decode cX7_next 47 = .ok (.iadd, 1) := by decide +kernel
theorem dX7_next_48 : decode cX7_next 48 = .ok (.istore 4, 2) := by decide +kernel
theorem dX7_next_50 : decode cX7_next 50 = .ok (.iload_n 0, 1) := by decide +kernel
theorem dX7_next_51 : decode cX7_next 51 = .ok (.invokestatic 61, 3) := by decide +kernel
theorem dX7_next_54 : decode cX7_next 54 = .ok (.iload_n 1, 1) := by decide +kernel
theorem dX7_next_55 : decode cX7_next 55 = .ok (.iconst 3, 1) := by decide +kernel
theorem dX7_next_56 : decode cX7_next 56 = .ok (.if_icmp .le 7, 3) := by decide +kernel
theorem dX7_next_59 : decode cX7_next 59 = .ok (.iload_n 2, 1) := by decide +kernel
theorem dX7_next_60 : decode cX7_next 60 = .ok (.goto 4, 3) := by decide +kernel
theorem dX7_next_63 : decode cX7_next 63 = .ok (.iconst 0, 1) := by decide +kernel
theorem dX7_next_64 : decode cX7_next 64 = .ok (.iadd, 1) := by decide +kernel
theorem dX7_next_65 : decode cX7_next 65 = .ok (.istore 5, 2) := by decide +kernel
theorem dX7_next_67 : decode cX7_next 67 = .ok (.iload_n 3, 1) := by decide +kernel
theorem dX7_next_68 : decode cX7_next 68 = .ok (.iload 4, 2) := by decide +kernel
theorem dX7_next_70 : decode cX7_next 70 = .ok (.iload 5, 2) := by decide +kernel
theorem dX7_next_72 : decode cX7_next 72 = .ok (.invokestatic 71, 3) := by decide +kernel
theorem dX7_next_75 : decode cX7_next 75 = .ok (.ifCond .eq 14, 3) := by decide +kernel
theorem dX7_next_78 : decode cX7_next 78 = .ok (.iload_n 3, 1) := by decide +kernel
theorem dX7_next_79 : decode cX7_next 79 = .ok (.iload 4, 2) := by decide +kernel
theorem dX7_next_81 : decode cX7_next 81 = .ok (.iload 5, 2) := by decide +kernel
theorem dX7_next_83 : decode cX7_next 83 = .ok (.invokestatic 74, 3) := by decide +kernel
theorem dX7_next_86 : decode cX7_next 86 = .ok (.goto 4, 3) := by decide +kernel
theorem dX7_next_89 : decode cX7_next 89 = .ok (.iconst (-1), 1) := by decide +kernel
theorem dX7_next_90 : decode cX7_next 90 = .ok (.ireturn, 1) := by decide +kernel
theorem dX7_typeOf_0 : decode cX7_typeOf 0 = .ok (.iload_n 1, 1) := by decide +kernel
theorem dX7_typeOf_1 : decode cX7_typeOf 1 = .ok (.aload_n 0, 1) := by decide +kernel
theorem dX7_typeOf_2 : decode cX7_typeOf 2 = .ok (.getfield 29, 3) := by decide +kernel
theorem dX7_typeOf_5 : decode cX7_typeOf 5 = .ok (.if_icmp .ne 10, 3) := by decide +kernel
theorem dX7_typeOf_8 : decode cX7_typeOf 8 = .ok (.aload_n 0, 1) := by decide +kernel
theorem dX7_typeOf_9 : decode cX7_typeOf 9 = .ok (.getfield 78, 3) := by decide +kernel
theorem dX7_typeOf_12 : decode cX7_typeOf 12 = .ok (.goto 9, 3) := by decide +kernel
theorem dX7_typeOf_15 : decode cX7_typeOf 15 = .ok (.aload_n 0, 1) := by decide +kernel
theorem dX7_typeOf_16 : decode cX7_typeOf 16 = .ok (.getfield 9, 3) := by decide +kernel
theorem dX7_typeOf_19 : decode cX7_typeOf 19 = .ok (.iload_n 1, 1) := by decide +kernel
theorem dX7_typeOf_20 : decode cX7_typeOf 20 = .ok (.iaload, 1) := by decide +kernel
theorem dX7_typeOf_21 : decode cX7_typeOf 21 = .ok (.ireturn, 1) := by decide +kernel
theorem dX7_lossOf_0 : decode cX7_lossOf 0 = .ok (.aload_n 0, 1) := by decide +kernel
theorem dX7_lossOf_1 : decode cX7_lossOf 1 = .ok (.getfield 9, 3) := by decide +kernel
theorem dX7_lossOf_4 : decode cX7_lossOf 4 = .ok (.sipush 1152, 3) := by decide +kernel
theorem dX7_lossOf_7 : decode cX7_lossOf 7 = .ok (.iconst 4, 1) := by decide +kernel
theorem dX7_lossOf_8 : decode cX7_lossOf 8 = .ok (.aload_n 0, 1) := by decide +kernel
theorem dX7_lossOf_9 : decode cX7_lossOf 9 = .ok (.iload_n 1, 1) := by decide +kernel
theorem dX7_lossOf_10 : decode cX7_lossOf 10 = .ok (.invokevirtual 81, 3) := by decide +kernel
theorem dX7_lossOf_13 : decode cX7_lossOf 13 = .ok (.imul, 1) := by decide +kernel
theorem dX7_lossOf_14 : decode cX7_lossOf 14 = .ok (.iadd, 1) := by decide +kernel
theorem dX7_lossOf_15 : decode cX7_lossOf 15 = .ok (.iload_n 2, 1) := by decide +kernel
theorem dX7_lossOf_16 : decode cX7_lossOf 16 = .ok (.iadd, 1) := by decide +kernel
theorem dX7_lossOf_17 : decode cX7_lossOf 17 = .ok (.iaload, 1) := by decide +kernel
theorem dX7_lossOf_18 : decode cX7_lossOf 18 = .ok (.ireturn, 1) := by decide +kernel
theorem dX7_emissionOf_0 : decode cX7_emissionOf 0 = .ok (.iload_n 1, 1) := by decide +kernel
theorem dX7_emissionOf_1 : decode cX7_emissionOf 1 = .ok (.aload_n 0, 1) := by decide +kernel
theorem dX7_emissionOf_2 : decode cX7_emissionOf 2 = .ok (.getfield 29, 3) := by decide +kernel
theorem dX7_emissionOf_5 : decode cX7_emissionOf 5 = .ok (.if_icmp .ne 17, 3) := by decide +kernel
theorem dX7_emissionOf_8 : decode cX7_emissionOf 8 = .ok (.aload_n 0, 1) := by decide +kernel
theorem dX7_emissionOf_9 : decode cX7_emissionOf 9 = .ok (.getfield 84, 3) := by decide +kernel
theorem dX7_emissionOf_12 : decode cX7_emissionOf 12 = .ok (.ifCond .lt 10, 3) := by decide +kernel
theorem dX7_emissionOf_15 : decode cX7_emissionOf 15 = .ok (.aload_n 0, 1) := by decide +kernel
theorem dX7_emissionOf_16 : decode cX7_emissionOf 16 = .ok (.getfield 84, 3) := by decide +kernel
theorem dX7_emissionOf_19 : decode cX7_emissionOf 19 = .ok (.goto 21, 3) := by decide +kernel
theorem dX7_emissionOf_22 : decode cX7_emissionOf 22 = .ok (.aload_n 0, 1) := by decide +kernel
theorem dX7_emissionOf_23 : decode cX7_emissionOf 23 = .ok (.getfield 9, 3) := by decide +kernel
theorem dX7_emissionOf_26 : decode cX7_emissionOf 26 = .ok (.sipush 1184, 3) := by decide +kernel
theorem dX7_emissionOf_29 : decode cX7_emissionOf 29 = .ok (.iconst 4, 1) := by decide +kernel
theorem dX7_emissionOf_30 : decode cX7_emissionOf 30 = .ok (.aload_n 0, 1) := by decide +kernel
theorem dX7_emissionOf_31 : decode cX7_emissionOf 31 = .ok (.iload_n 1, 1) := by decide +kernel
theorem dX7_emissionOf_32 : decode cX7_emissionOf 32 = .ok (.invokevirtual 81, 3) := by decide +kernel
theorem dX7_emissionOf_35 : decode cX7_emissionOf 35 = .ok (.imul, 1) := by decide +kernel
theorem dX7_emissionOf_36 : decode cX7_emissionOf 36 = .ok (.iadd, 1) := by decide +kernel
theorem dX7_emissionOf_37 : decode cX7_emissionOf 37 = .ok (.iload_n 2, 1) := by decide +kernel
theorem dX7_emissionOf_38 : decode cX7_emissionOf 38 = .ok (.iadd, 1) := by decide +kernel
theorem dX7_emissionOf_39 : decode cX7_emissionOf 39 = .ok (.iaload, 1) := by decide +kernel
theorem dX7_emissionOf_40 : decode cX7_emissionOf 40 = .ok (.ireturn, 1) := by decide +kernel
theorem dX7_raise_0 : decode cX7_raise 0 = .ok (.aload_n 0, 1) := by decide +kernel
theorem dX7_raise_1 : decode cX7_raise 1 = .ok (.getfield 26, 3) := by decide +kernel
theorem dX7_raise_4 : decode cX7_raise 4 = .ok (.iload_n 1, 1) := by decide +kernel
theorem dX7_raise_5 : decode cX7_raise 5 = .ok (.aload_n 0, 1) := by decide +kernel
theorem dX7_raise_6 : decode cX7_raise 6 = .ok (.getfield 26, 3) := by decide +kernel
theorem dX7_raise_9 : decode cX7_raise 9 = .ok (.iload_n 1, 1) := by decide +kernel
theorem dX7_raise_10 : decode cX7_raise 10 = .ok (.iaload, 1) := by decide +kernel
theorem dX7_raise_11 : decode cX7_raise 11 = .ok (.iload_n 2, 1) := by decide +kernel
theorem dX7_raise_12 : decode cX7_raise 12 = .ok (.invokestatic 87, 3) := by decide +kernel
theorem dX7_raise_15 : decode cX7_raise 15 = .ok (.iastore, 1) := by decide +kernel
theorem dX7_raise_16 : decode cX7_raise 16 = .ok (.return_, 1) := by decide +kernel
theorem dX7_laySun_0 : decode cX7_laySun 0 = .ok (.iconst 0, 1) := by decide +kernel
theorem dX7_laySun_1 : decode cX7_laySun 1 = .ok (.istore_n 1, 1) := by decide +kernel
theorem dX7_laySun_2 : decode cX7_laySun 2 = .ok (.iload_n 1, 1) := by decide +kernel
theorem dX7_laySun_3 : decode cX7_laySun 3 = .ok (.sipush 1152, 3) := by decide +kernel
theorem dX7_laySun_6 : decode cX7_laySun 6 = .ok (.if_icmp .ge 83, 3) := by decide +kernel
theorem dX7_laySun_9 : decode cX7_laySun 9 = .ok (.iload_n 1, 1) := by decide +kernel
theorem dX7_laySun_10 : decode cX7_laySun 10 = .ok (.invokestatic 65, 3) := by decide +kernel
theorem dX7_laySun_13 : decode cX7_laySun 13 = .ok (.bipush 7, 2) := by decide +kernel
theorem dX7_laySun_15 : decode cX7_laySun 15 = .ok (.if_icmp .ne 68, 3) := by decide +kernel
theorem dX7_laySun_18 : decode cX7_laySun 18 = .ok (.aload_n 0, 1) := by decide +kernel
theorem dX7_laySun_19 : decode cX7_laySun 19 = .ok (.iload_n 1, 1) := by decide +kernel
theorem dX7_laySun_20 : decode cX7_laySun 20 = .ok (.bipush 15, 2) := by decide +kernel
theorem dX7_laySun_22 : decode cX7_laySun 22 = .ok (.aload_n 0, 1) := by decide +kernel
theorem dX7_laySun_23 : decode cX7_laySun 23 = .ok (.iload_n 1, 1) := by decide +kernel
theorem dX7_laySun_24 : decode cX7_laySun 24 = .ok (.iconst 3, 1) := by decide +kernel
theorem dX7_laySun_25 : decode cX7_laySun 25 = .ok (.invokevirtual 93, 3) := by decide +kernel
theorem dX7_laySun_28 : decode cX7_laySun 28 = .ok (.isub, 1) := by decide +kernel
theorem dX7_laySun_29 : decode cX7_laySun 29 = .ok (.invokevirtual 96, 3) := by decide +kernel
theorem dX7_laySun_32 : decode cX7_laySun 32 = .ok (.iload_n 1, 1) := by decide +kernel
theorem dX7_laySun_33 : decode cX7_laySun 33 = .ok (.istore_n 2, 1) := by decide +kernel
theorem dX7_laySun_34 : decode cX7_laySun 34 = .ok (.aload_n 0, 1) := by decide +kernel
theorem dX7_laySun_35 : decode cX7_laySun 35 = .ok (.getfield 26, 3) := by decide +kernel
theorem dX7_laySun_38 : decode cX7_laySun 38 = .ok (.iload_n 2, 1) := by decide +kernel
theorem dX7_laySun_39 : decode cX7_laySun 39 = .ok (.iaload, 1) := by decide +kernel
theorem dX7_laySun_40 : decode cX7_laySun 40 = .ok (.bipush 15, 2) := by decide +kernel
theorem dX7_laySun_42 : decode cX7_laySun 42 = .ok (.if_icmp .ne 41, 3) := by decide +kernel
theorem dX7_laySun_45 : decode cX7_laySun 45 = .ok (.iload_n 2, 1) := by decide +kernel
theorem dX7_laySun_46 : decode cX7_laySun 46 = .ok (.iconst 2, 1) := by decide +kernel
theorem dX7_laySun_47 : decode cX7_laySun 47 = .ok (.invokestatic 100, 3) := by decide +kernel
theorem dX7_laySun_50 : decode cX7_laySun 50 = .ok (.ifCond .lt 33, 3) := by decide +kernel
theorem dX7_laySun_53 : decode cX7_laySun 53 = .ok (.aload_n 0, 1) := by decide +kernel
theorem dX7_laySun_54 : decode cX7_laySun 54 = .ok (.iload_n 2, 1) := by decide +kernel
theorem dX7_laySun_55 : decode cX7_laySun 55 = .ok (.iconst 2, 1) := by decide +kernel
theorem dX7_laySun_56 : decode cX7_laySun 56 = .ok (.invokestatic 100, 3) := by decide +kernel
theorem dX7_laySun_59 : decode cX7_laySun 59 = .ok (.iconst 3, 1) := by decide +kernel
theorem dX7_laySun_60 : decode cX7_laySun 60 = .ok (.invokevirtual 93, 3) := by decide +kernel
theorem dX7_laySun_63 : decode cX7_laySun 63 = .ok (.ifCond .ne 20, 3) := by decide +kernel
theorem dX7_laySun_66 : decode cX7_laySun 66 = .ok (.iload_n 2, 1) := by decide +kernel
theorem dX7_laySun_67 : decode cX7_laySun 67 = .ok (.iconst 2, 1) := by decide +kernel
theorem dX7_laySun_68 : decode cX7_laySun 68 = .ok (.invokestatic 100, 3) := by decide +kernel
theorem dX7_laySun_71 : decode cX7_laySun 71 = .ok (.istore_n 2, 1) := by decide +kernel
theorem dX7_laySun_72 : decode cX7_laySun 72 = .ok (.aload_n 0, 1) := by decide +kernel
theorem dX7_laySun_73 : decode cX7_laySun 73 = .ok (.getfield 26, 3) := by decide +kernel
theorem dX7_laySun_76 : decode cX7_laySun 76 = .ok (.iload_n 2, 1) := by decide +kernel
theorem dX7_laySun_77 : decode cX7_laySun 77 = .ok (.bipush 15, 2) := by decide +kernel
theorem dX7_laySun_79 : decode cX7_laySun 79 = .ok (.iastore, 1) := by decide +kernel
theorem dX7_laySun_80 : decode cX7_laySun 80 = .ok (.goto (-46), 3) := by decide +kernel
theorem dX7_laySun_83 : decode cX7_laySun 83 = .ok (.iinc 1 1, 3) := by decide +kernel
theorem dX7_laySun_86 : decode cX7_laySun 86 = .ok (.goto (-84), 3) := by decide +kernel
theorem dX7_laySun_89 : decode cX7_laySun 89 = .ok (.return_, 1) := by decide +kernel
theorem dX7_lay_0 : decode cX7_lay 0 = .ok (.iconst 0, 1) := by decide +kernel
theorem dX7_lay_1 : decode cX7_lay 1 = .ok (.istore_n 2, 1) := by decide +kernel
theorem dX7_lay_2 : decode cX7_lay 2 = .ok (.iload_n 2, 1) := by decide +kernel
theorem dX7_lay_3 : decode cX7_lay 3 = .ok (.sipush 1152, 3) := by decide +kernel
theorem dX7_lay_6 : decode cX7_lay 6 = .ok (.if_icmp .ge 30, 3) := by decide +kernel
theorem dX7_lay_9 : decode cX7_lay 9 = .ok (.aload_n 0, 1) := by decide +kernel
theorem dX7_lay_10 : decode cX7_lay 10 = .ok (.getfield 26, 3) := by decide +kernel
theorem dX7_lay_13 : decode cX7_lay 13 = .ok (.iload_n 2, 1) := by decide +kernel
theorem dX7_lay_14 : decode cX7_lay 14 = .ok (.iload_n 1, 1) := by decide +kernel
theorem dX7_lay_15 : decode cX7_lay 15 = .ok (.iconst 3, 1) := by decide +kernel
theorem dX7_lay_16 : decode cX7_lay 16 = .ok (.if_icmp .ge 12, 3) := by decide +kernel
theorem dX7_lay_19 : decode cX7_lay 19 = .ok (.aload_n 0, 1) := by decide +kernel
theorem dX7_lay_20 : decode cX7_lay 20 = .ok (.iload_n 2, 1) := by decide +kernel
theorem dX7_lay_21 : decode cX7_lay 21 = .ok (.iload_n 1, 1) := by decide +kernel
theorem dX7_lay_22 : decode cX7_lay 22 = .ok (.invokevirtual 103, 3) := by decide +kernel
theorem dX7_lay_25 : decode cX7_lay 25 = .ok (.goto 4, 3) := by decide +kernel
theorem dX7_lay_28 : decode cX7_lay 28 = .ok (.iconst 0, 1) := by decide +kernel
theorem dX7_lay_29 : decode cX7_lay 29 = .ok (.iastore, 1) := by decide +kernel
theorem dX7_lay_30 : decode cX7_lay 30 = .ok (.iinc 2 1, 3) := by decide +kernel
theorem dX7_lay_33 : decode cX7_lay 33 = .ok (.goto (-31), 3) := by decide +kernel
theorem dX7_lay_36 : decode cX7_lay 36 = .ok (.iload_n 1, 1) := by decide +kernel
theorem dX7_lay_37 : decode cX7_lay 37 = .ok (.iconst 3, 1) := by decide +kernel
theorem dX7_lay_38 : decode cX7_lay 38 = .ok (.if_icmp .ne 7, 3) := by decide +kernel
theorem dX7_lay_41 : decode cX7_lay 41 = .ok (.aload_n 0, 1) := by decide +kernel
theorem dX7_lay_42 : decode cX7_lay 42 = .ok (.invokevirtual 106, 3) := by decide +kernel
theorem dX7_lay_45 : decode cX7_lay 45 = .ok (.bipush 15, 2) := by decide +kernel
theorem dX7_lay_47 : decode cX7_lay 47 = .ok (.istore_n 2, 1) := by decide +kernel
theorem dX7_lay_48 : decode cX7_lay 48 = .ok (.iload_n 2, 1) := by decide +kernel
theorem dX7_lay_49 : decode cX7_lay 49 = .ok (.iconst 1, 1) := by decide +kernel
theorem dX7_lay_50 : decode cX7_lay 50 = .ok (.if_icmp .le 80, 3) := by decide +kernel
theorem dX7_lay_53 : decode cX7_lay 53 = .ok (.iconst 0, 1) := by decide +kernel
theorem dX7_lay_54 : decode cX7_lay 54 = .ok (.istore_n 3, 1) := by decide +kernel
theorem dX7_lay_55 : decode cX7_lay 55 = .ok (.iload_n 3, 1) := by decide +kernel
theorem dX7_lay_56 : decode cX7_lay 56 = .ok (.sipush 1152, 3) := by decide +kernel
theorem dX7_lay_59 : decode cX7_lay 59 = .ok (.if_icmp .ge 65, 3) := by decide +kernel
theorem dX7_lay_62 : decode cX7_lay 62 = .ok (.iconst 0, 1) := by decide +kernel
theorem dX7_lay_63 : decode cX7_lay 63 = .ok (.istore 4, 2) := by decide +kernel
theorem dX7_lay_65 : decode cX7_lay 65 = .ok (.iload 4, 2) := by decide +kernel
theorem dX7_lay_67 : decode cX7_lay 67 = .ok (.bipush 6, 2) := by decide +kernel
theorem dX7_lay_69 : decode cX7_lay 69 = .ok (.if_icmp .ge 49, 3) := by decide +kernel
theorem dX7_lay_72 : decode cX7_lay 72 = .ok (.aload_n 0, 1) := by decide +kernel
theorem dX7_lay_73 : decode cX7_lay 73 = .ok (.getfield 26, 3) := by decide +kernel
theorem dX7_lay_76 : decode cX7_lay 76 = .ok (.iload_n 3, 1) := by decide +kernel
theorem dX7_lay_77 : decode cX7_lay 77 = .ok (.iaload, 1) := by decide +kernel
theorem dX7_lay_78 : decode cX7_lay 78 = .ok (.iload_n 2, 1) := by decide +kernel
theorem dX7_lay_79 : decode cX7_lay 79 = .ok (.if_icmp .ne 39, 3) := by decide +kernel
theorem dX7_lay_82 : decode cX7_lay 82 = .ok (.iload_n 3, 1) := by decide +kernel
theorem dX7_lay_83 : decode cX7_lay 83 = .ok (.iload 4, 2) := by decide +kernel
theorem dX7_lay_85 : decode cX7_lay 85 = .ok (.invokestatic 100, 3) := by decide +kernel
theorem dX7_lay_88 : decode cX7_lay 88 = .ok (.istore 5, 2) := by decide +kernel
theorem dX7_lay_90 : decode cX7_lay 90 = .ok (.iload 5, 2) := by decide +kernel
theorem dX7_lay_92 : decode cX7_lay 92 = .ok (.ifCond .lt 20, 3) := by decide +kernel
theorem dX7_lay_95 : decode cX7_lay 95 = .ok (.aload_n 0, 1) := by decide +kernel
theorem dX7_lay_96 : decode cX7_lay 96 = .ok (.iload 5, 2) := by decide +kernel
theorem dX7_lay_98 : decode cX7_lay 98 = .ok (.iload_n 2, 1) := by decide +kernel
theorem dX7_lay_99 : decode cX7_lay 99 = .ok (.iconst 1, 1) := by decide +kernel
theorem dX7_lay_100 : decode cX7_lay 100 = .ok (.isub, 1) := by decide +kernel
theorem dX7_lay_101 : decode cX7_lay 101 = .ok (.aload_n 0, 1) := by decide +kernel
theorem dX7_lay_102 : decode cX7_lay 102 = .ok (.iload 5, 2) := by decide +kernel
theorem dX7_lay_104 : decode cX7_lay 104 = .ok (.iload_n 1, 1) := by decide +kernel
theorem dX7_lay_105 : decode cX7_lay 105 = .ok (.invokevirtual 93, 3) := by decide +kernel
theorem dX7_lay_108 : decode cX7_lay 108 = .ok (.isub, 1) := by decide +kernel
theorem dX7_lay_109 : decode cX7_lay 109 = .ok (.invokevirtual 96, 3) := by decide +kernel
theorem dX7_lay_112 : decode cX7_lay 112 = .ok (.iinc 4 1, 3) := by decide +kernel
theorem dX7_lay_115 : decode cX7_lay 115 = .ok (.goto (-50), 3) := by decide +kernel
theorem dX7_lay_118 : decode cX7_lay 118 = .ok (.iinc 3 1, 3) := by decide +kernel
theorem dX7_lay_121 : decode cX7_lay 121 = .ok (.goto (-66), 3) := by decide +kernel
theorem dX7_lay_124 : decode cX7_lay 124 = .ok (.iinc 2 (-1), 3) := by decide +kernel
theorem dX7_lay_127 : decode cX7_lay 127 = .ok (.goto (-79), 3) := by decide +kernel
theorem dX7_lay_130 : decode cX7_lay 130 = .ok (.return_, 1) := by decide +kernel
theorem dX7_layAll_0 : decode cX7_layAll 0 = .ok (.aload_n 0, 1) := by decide +kernel
theorem dX7_layAll_1 : decode cX7_layAll 1 = .ok (.iconst (-1), 1) := by decide +kernel
theorem dX7_layAll_2 : decode cX7_layAll 2 = .ok (.putfield 29, 3) := by decide +kernel
theorem dX7_layAll_5 : decode cX7_layAll 5 = .ok (.iconst 0, 1) := by decide +kernel
theorem dX7_layAll_6 : decode cX7_layAll 6 = .ok (.istore_n 1, 1) := by decide +kernel
theorem dX7_layAll_7 : decode cX7_layAll 7 = .ok (.iload_n 1, 1) := by decide +kernel
theorem dX7_layAll_8 : decode cX7_layAll 8 = .ok (.iconst 4, 1) := by decide +kernel
theorem dX7_layAll_9 : decode cX7_layAll 9 = .ok (.if_icmp .ge 47, 3) := by decide +kernel
theorem dX7_layAll_12 : decode cX7_layAll 12 = .ok (.aload_n 0, 1) := by decide +kernel
theorem dX7_layAll_13 : decode cX7_layAll 13 = .ok (.iload_n 1, 1) := by decide +kernel
theorem dX7_layAll_14 : decode cX7_layAll 14 = .ok (.invokevirtual 109, 3) := by decide +kernel
theorem dX7_layAll_17 : decode cX7_layAll 17 = .ok (.iconst 0, 1) := by decide +kernel
theorem dX7_layAll_18 : decode cX7_layAll 18 = .ok (.istore_n 2, 1) := by decide +kernel
theorem dX7_layAll_19 : decode cX7_layAll 19 = .ok (.iload_n 2, 1) := by decide +kernel
theorem dX7_layAll_20 : decode cX7_layAll 20 = .ok (.sipush 1152, 3) := by decide +kernel
theorem dX7_layAll_23 : decode cX7_layAll 23 = .ok (.if_icmp .ge 27, 3) := by decide +kernel
theorem dX7_layAll_26 : decode cX7_layAll 26 = .ok (.aload_n 0, 1) := by decide +kernel
theorem dX7_layAll_27 : decode cX7_layAll 27 = .ok (.getfield 19, 3) := by decide +kernel
theorem dX7_layAll_30 : decode cX7_layAll 30 = .ok (.sipush 1152, 3) := by decide +kernel
theorem dX7_layAll_33 : decode cX7_layAll 33 = .ok (.iload_n 1, 1) := by decide +kernel
theorem dX7_layAll_34 : decode cX7_layAll 34 = .ok (.imul, 1) := by decide +kernel
theorem dX7_layAll_35 : decode cX7_layAll 35 = .ok (.iload_n 2, 1) := by decide +kernel
theorem dX7_layAll_36 : decode cX7_layAll 36 = .ok (.iadd, 1) := by decide +kernel
theorem dX7_layAll_37 : decode cX7_layAll 37 = .ok (.aload_n 0, 1) := by decide +kernel
theorem dX7_layAll_38 : decode cX7_layAll 38 = .ok (.getfield 26, 3) := by decide +kernel
theorem dX7_layAll_41 : decode cX7_layAll 41 = .ok (.iload_n 2, 1) := by decide +kernel
theorem dX7_layAll_42 : decode cX7_layAll 42 = .ok (.iaload, 1) := by decide +kernel
theorem dX7_layAll_43 : decode cX7_layAll 43 = .ok (.iastore, 1) := by decide +kernel
theorem dX7_layAll_44 : decode cX7_layAll 44 = .ok (.iinc 2 1, 3) := by decide +kernel
theorem dX7_layAll_47 : decode cX7_layAll 47 = .ok (.goto (-28), 3) := by decide +kernel
theorem dX7_layAll_50 : decode cX7_layAll 50 = .ok (.iinc 1 1, 3) := by decide +kernel
theorem dX7_layAll_53 : decode cX7_layAll 53 = .ok (.goto (-46), 3) := by decide +kernel
theorem dX7_layAll_56 : decode cX7_layAll 56 = .ok (.return_, 1) := by decide +kernel
theorem dX7_layWith_0 : decode cX7_layWith 0 = .ok (.aload_n 0, 1) := by decide +kernel
theorem dX7_layWith_1 : decode cX7_layWith 1 = .ok (.iload_n 1, 1) := by decide +kernel
theorem dX7_layWith_2 : decode cX7_layWith 2 = .ok (.putfield 29, 3) := by decide +kernel
theorem dX7_layWith_5 : decode cX7_layWith 5 = .ok (.aload_n 0, 1) := by decide +kernel
theorem dX7_layWith_6 : decode cX7_layWith 6 = .ok (.iload_n 2, 1) := by decide +kernel
theorem dX7_layWith_7 : decode cX7_layWith 7 = .ok (.putfield 78, 3) := by decide +kernel
theorem dX7_layWith_10 : decode cX7_layWith 10 = .ok (.aload_n 0, 1) := by decide +kernel
theorem dX7_layWith_11 : decode cX7_layWith 11 = .ok (.iload_n 3, 1) := by decide +kernel
theorem dX7_layWith_12 : decode cX7_layWith 12 = .ok (.putfield 84, 3) := by decide +kernel
theorem dX7_layWith_15 : decode cX7_layWith 15 = .ok (.aload_n 0, 1) := by decide +kernel
theorem dX7_layWith_16 : decode cX7_layWith 16 = .ok (.iload 4, 2) := by decide +kernel
theorem dX7_layWith_18 : decode cX7_layWith 18 = .ok (.invokevirtual 109, 3) := by decide +kernel
theorem dX7_layWith_21 : decode cX7_layWith 21 = .ok (.aload_n 0, 1) := by decide +kernel
theorem dX7_layWith_22 : decode cX7_layWith 22 = .ok (.iconst (-1), 1) := by decide +kernel
theorem dX7_layWith_23 : decode cX7_layWith 23 = .ok (.putfield 29, 3) := by decide +kernel
theorem dX7_layWith_26 : decode cX7_layWith 26 = .ok (.return_, 1) := by decide +kernel
theorem dX7_keep_0 : decode cX7_keep 0 = .ok (.aload_n 0, 1) := by decide +kernel
theorem dX7_keep_1 : decode cX7_keep 1 = .ok (.getfield 113, 3) := by decide +kernel
theorem dX7_keep_4 : decode cX7_keep 4 = .ok (.bipush 6, 2) := by decide +kernel
theorem dX7_keep_6 : decode cX7_keep 6 = .ok (.if_icmp .ne 44, 3) := by decide +kernel
theorem dX7_keep_9 : decode cX7_keep 9 = .ok (.iconst 0, 1) := by decide +kernel
theorem dX7_keep_10 : decode cX7_keep 10 = .ok (.istore_n 1, 1) := by decide +kernel
theorem dX7_keep_11 : decode cX7_keep 11 = .ok (.iload_n 1, 1) := by decide +kernel
theorem dX7_keep_12 : decode cX7_keep 12 = .ok (.sipush 6080, 3) := by decide +kernel
theorem dX7_keep_15 : decode cX7_keep 15 = .ok (.if_icmp .ge 25, 3) := by decide +kernel
theorem dX7_keep_18 : decode cX7_keep 18 = .ok (.aload_n 0, 1) := by decide +kernel
theorem dX7_keep_19 : decode cX7_keep 19 = .ok (.getfield 16, 3) := by decide +kernel
theorem dX7_keep_22 : decode cX7_keep 22 = .ok (.iload_n 1, 1) := by decide +kernel
theorem dX7_keep_23 : decode cX7_keep 23 = .ok (.aload_n 0, 1) := by decide +kernel
theorem dX7_keep_24 : decode cX7_keep 24 = .ok (.getfield 16, 3) := by decide +kernel
theorem dX7_keep_27 : decode cX7_keep 27 = .ok (.iload_n 1, 1) := by decide +kernel
theorem dX7_keep_28 : decode cX7_keep 28 = .ok (.sipush 1216, 3) := by decide +kernel
theorem dX7_keep_31 : decode cX7_keep 31 = .ok (.iadd, 1) := by decide +kernel
theorem dX7_keep_32 : decode cX7_keep 32 = .ok (.iaload, 1) := by decide +kernel
theorem dX7_keep_33 : decode cX7_keep 33 = .ok (.iastore, 1) := by decide +kernel
theorem dX7_keep_34 : decode cX7_keep 34 = .ok (.iinc 1 1, 3) := by decide +kernel
theorem dX7_keep_37 : decode cX7_keep 37 = .ok (.goto (-26), 3) := by decide +kernel
theorem dX7_keep_40 : decode cX7_keep 40 = .ok (.aload_n 0, 1) := by decide +kernel
theorem dX7_keep_41 : decode cX7_keep 41 = .ok (.dup, 1) := by decide +kernel
theorem dX7_keep_42 : decode cX7_keep 42 = .ok (.getfield 113, 3) := by decide +kernel
theorem dX7_keep_45 : decode cX7_keep 45 = .ok (.iconst 1, 1) := by decide +kernel
theorem dX7_keep_46 : decode cX7_keep 46 = .ok (.isub, 1) := by decide +kernel
theorem dX7_keep_47 : decode cX7_keep 47 = .ok (.putfield 113, 3) := by decide +kernel
theorem dX7_keep_50 : decode cX7_keep 50 = .ok (.iconst 0, 1) := by decide +kernel
theorem dX7_keep_51 : decode cX7_keep 51 = .ok (.istore_n 1, 1) := by decide +kernel
theorem dX7_keep_52 : decode cX7_keep 52 = .ok (.iload_n 1, 1) := by decide +kernel
theorem dX7_keep_53 : decode cX7_keep 53 = .ok (.sipush 1216, 3) := by decide +kernel
theorem dX7_keep_56 : decode cX7_keep 56 = .ok (.if_icmp .ge 30, 3) := by decide +kernel
theorem dX7_keep_59 : decode cX7_keep 59 = .ok (.aload_n 0, 1) := by decide +kernel
theorem dX7_keep_60 : decode cX7_keep 60 = .ok (.getfield 16, 3) := by decide +kernel
theorem dX7_keep_63 : decode cX7_keep 63 = .ok (.sipush 1216, 3) := by decide +kernel
theorem dX7_keep_66 : decode cX7_keep 66 = .ok (.aload_n 0, 1) := by decide +kernel
theorem dX7_keep_67 : decode cX7_keep 67 = .ok (.getfield 113, 3) := by decide +kernel
theorem dX7_keep_70 : decode cX7_keep 70 = .ok (.imul, 1) := by decide +kernel
theorem dX7_keep_71 : decode cX7_keep 71 = .ok (.iload_n 1, 1) := by decide +kernel
theorem dX7_keep_72 : decode cX7_keep 72 = .ok (.iadd, 1) := by decide +kernel
theorem dX7_keep_73 : decode cX7_keep 73 = .ok (.aload_n 0, 1) := by decide +kernel
theorem dX7_keep_74 : decode cX7_keep 74 = .ok (.getfield 9, 3) := by decide +kernel
theorem dX7_keep_77 : decode cX7_keep 77 = .ok (.iload_n 1, 1) := by decide +kernel
theorem dX7_keep_78 : decode cX7_keep 78 = .ok (.iaload, 1) := by decide +kernel
theorem dX7_keep_79 : decode cX7_keep 79 = .ok (.iastore, 1) := by decide +kernel
theorem dX7_keep_80 : decode cX7_keep 80 = .ok (.iinc 1 1, 3) := by decide +kernel
theorem dX7_keep_83 : decode cX7_keep 83 = .ok (.goto (-31), 3) := by decide +kernel
theorem dX7_keep_86 : decode cX7_keep 86 = .ok (.aload_n 0, 1) := by decide +kernel
theorem dX7_keep_87 : decode cX7_keep 87 = .ok (.dup, 1) := by decide +kernel
theorem dX7_keep_88 : decode cX7_keep 88 = .ok (.getfield 113, 3) := by decide +kernel
theorem dX7_keep_91 : decode cX7_keep 91 = .ok (.iconst 1, 1) := by decide +kernel
theorem dX7_keep_92 : decode cX7_keep 92 = .ok (.iadd, 1) := by decide +kernel
theorem dX7_keep_93 : decode cX7_keep 93 = .ok (.putfield 113, 3) := by decide +kernel
theorem dX7_keep_96 : decode cX7_keep 96 = .ok (.return_, 1) := by decide +kernel
theorem dX7_effectMany_0 : decode cX7_effectMany 0 = .ok (.iconst 0, 1) := by decide +kernel
theorem dX7_effectMany_1 : decode cX7_effectMany 1 = .ok (.istore_n 1, 1) := by decide +kernel
theorem dX7_effectMany_2 : decode cX7_effectMany 2 = .ok (.iconst 0, 1) := by decide +kernel
theorem dX7_effectMany_3 : decode cX7_effectMany 3 = .ok (.istore_n 2, 1) := by decide +kernel
theorem dX7_effectMany_4 : decode cX7_effectMany 4 = .ok (.iload_n 2, 1) := by decide +kernel
theorem dX7_effectMany_5 : decode cX7_effectMany 5 = .ok (.sipush 1152, 3) := by decide +kernel
theorem dX7_effectMany_8 : decode cX7_effectMany 8 = .ok (.if_icmp .ge 26, 3) := by decide +kernel
theorem dX7_effectMany_11 : decode cX7_effectMany 11 = .ok (.iload_n 1, 1) := by decide +kernel
theorem dX7_effectMany_12 : decode cX7_effectMany 12 = .ok (.aload_n 0, 1) := by decide +kernel
theorem dX7_effectMany_13 : decode cX7_effectMany 13 = .ok (.getfield 22, 3) := by decide +kernel
theorem dX7_effectMany_16 : decode cX7_effectMany 16 = .ok (.iload_n 2, 1) := by decide +kernel
theorem dX7_effectMany_17 : decode cX7_effectMany 17 = .ok (.baload, 1) := by decide +kernel
theorem dX7_effectMany_18 : decode cX7_effectMany 18 = .ok (.ifCond .eq 7, 3) := by decide +kernel
theorem dX7_effectMany_21 : decode cX7_effectMany 21 = .ok (.iconst 1, 1) := by decide +kernel
theorem dX7_effectMany_22 : decode cX7_effectMany 22 = .ok (.goto 4, 3) := by decide +kernel
theorem dX7_effectMany_25 : decode cX7_effectMany 25 = .ok (.iconst 0, 1) := by decide +kernel
theorem dX7_effectMany_26 : decode cX7_effectMany 26 = .ok (.iadd, 1) := by decide +kernel
theorem dX7_effectMany_27 : decode cX7_effectMany 27 = .ok (.istore_n 1, 1) := by decide +kernel
theorem dX7_effectMany_28 : decode cX7_effectMany 28 = .ok (.iinc 2 1, 3) := by decide +kernel
theorem dX7_effectMany_31 : decode cX7_effectMany 31 = .ok (.goto (-27), 3) := by decide +kernel
theorem dX7_effectMany_34 : decode cX7_effectMany 34 = .ok (.iload_n 1, 1) := by decide +kernel
theorem dX7_effectMany_35 : decode cX7_effectMany 35 = .ok (.ireturn, 1) := by decide +kernel
theorem dX7_changed_0 : decode cX7_changed 0 = .ok (.iconst 0, 1) := by decide +kernel
theorem dX7_changed_1 : decode cX7_changed 1 = .ok (.istore_n 1, 1) := by decide +kernel
theorem dX7_changed_2 : decode cX7_changed 2 = .ok (.iload_n 1, 1) := by decide +kernel
theorem dX7_changed_3 : decode cX7_changed 3 = .ok (.sipush 1152, 3) := by decide +kernel
theorem dX7_changed_6 : decode cX7_changed 6 = .ok (.if_icmp .ge 16, 3) := by decide +kernel
theorem dX7_changed_9 : decode cX7_changed 9 = .ok (.aload_n 0, 1) := by decide +kernel
theorem dX7_changed_10 : decode cX7_changed 10 = .ok (.getfield 22, 3) := by decide +kernel
theorem dX7_changed_13 : decode cX7_changed 13 = .ok (.iload_n 1, 1) := by decide +kernel
theorem dX7_changed_14 : decode cX7_changed 14 = .ok (.iconst 0, 1) := by decide +kernel
theorem dX7_changed_15 : decode cX7_changed 15 = .ok (.bastore, 1) := by decide +kernel
theorem dX7_changed_16 : decode cX7_changed 16 = .ok (.iinc 1 1, 3) := by decide +kernel
theorem dX7_changed_19 : decode cX7_changed 19 = .ok (.goto (-17), 3) := by decide +kernel
theorem dX7_changed_22 : decode cX7_changed 22 = .ok (.iconst 0, 1) := by decide +kernel
theorem dX7_changed_23 : decode cX7_changed 23 = .ok (.istore_n 1, 1) := by decide +kernel
theorem dX7_changed_24 : decode cX7_changed 24 = .ok (.iload_n 1, 1) := by decide +kernel
theorem dX7_changed_25 : decode cX7_changed 25 = .ok (.iconst 4, 1) := by decide +kernel
theorem dX7_changed_26 : decode cX7_changed 26 = .ok (.if_icmp .ge 82, 3) := by decide +kernel
theorem dX7_changed_29 : decode cX7_changed 29 = .ok (.aload_n 0, 1) := by decide +kernel
theorem dX7_changed_30 : decode cX7_changed 30 = .ok (.iload_n 1, 1) := by decide +kernel
theorem dX7_changed_31 : decode cX7_changed 31 = .ok (.invokevirtual 109, 3) := by decide +kernel
theorem dX7_changed_34 : decode cX7_changed 34 = .ok (.iconst 0, 1) := by decide +kernel
theorem dX7_changed_35 : decode cX7_changed 35 = .ok (.istore_n 2, 1) := by decide +kernel
theorem dX7_changed_36 : decode cX7_changed 36 = .ok (.iload_n 2, 1) := by decide +kernel
theorem dX7_changed_37 : decode cX7_changed 37 = .ok (.sipush 1152, 3) := by decide +kernel
theorem dX7_changed_40 : decode cX7_changed 40 = .ok (.if_icmp .ge 62, 3) := by decide +kernel
theorem dX7_changed_43 : decode cX7_changed 43 = .ok (.aload_n 0, 1) := by decide +kernel
theorem dX7_changed_44 : decode cX7_changed 44 = .ok (.getfield 22, 3) := by decide +kernel
theorem dX7_changed_47 : decode cX7_changed 47 = .ok (.iload_n 2, 1) := by decide +kernel
theorem dX7_changed_48 : decode cX7_changed 48 = .ok (.dup2, 1) := by decide +kernel
theorem dX7_changed_49 : decode cX7_changed 49 = .ok (.baload, 1) := by decide +kernel
theorem dX7_changed_50 : decode cX7_changed 50 = .ok (.aload_n 0, 1) := by decide +kernel
theorem dX7_changed_51 : decode cX7_changed 51 = .ok (.getfield 19, 3) := by decide +kernel
theorem dX7_changed_54 : decode cX7_changed 54 = .ok (.sipush 1152, 3) := by decide +kernel
theorem dX7_changed_57 : decode cX7_changed 57 = .ok (.iload_n 1, 1) := by decide +kernel
theorem dX7_changed_58 : decode cX7_changed 58 = .ok (.imul, 1) := by decide +kernel
theorem dX7_changed_59 : decode cX7_changed 59 = .ok (.iload_n 2, 1) := by decide +kernel
theorem dX7_changed_60 : decode cX7_changed 60 = .ok (.iadd, 1) := by decide +kernel
theorem dX7_changed_61 : decode cX7_changed 61 = .ok (.iaload, 1) := by decide +kernel
theorem dX7_changed_62 : decode cX7_changed 62 = .ok (.aload_n 0, 1) := by decide +kernel
theorem dX7_changed_63 : decode cX7_changed 63 = .ok (.getfield 26, 3) := by decide +kernel
theorem dX7_changed_66 : decode cX7_changed 66 = .ok (.iload_n 2, 1) := by decide +kernel
theorem dX7_changed_67 : decode cX7_changed 67 = .ok (.iaload, 1) := by decide +kernel
theorem dX7_changed_68 : decode cX7_changed 68 = .ok (.if_icmp .eq 7, 3) := by decide +kernel
theorem dX7_changed_71 : decode cX7_changed 71 = .ok (.iconst 1, 1) := by decide +kernel
theorem dX7_changed_72 : decode cX7_changed 72 = .ok (.goto 4, 3) := by decide +kernel
theorem dX7_changed_75 : decode cX7_changed 75 = .ok (.iconst 0, 1) := by decide +kernel
theorem dX7_changed_76 : decode cX7_changed 76 = .ok (.ior, 1) := by decide +kernel
theorem dX7_changed_77 : decode cX7_changed 77 = .ok (.bastore, 1) := by decide +kernel
theorem dX7_changed_78 : decode cX7_changed 78 = .ok (.aload_n 0, 1) := by decide +kernel
theorem dX7_changed_79 : decode cX7_changed 79 = .ok (.getfield 19, 3) := by decide +kernel
theorem dX7_changed_82 : decode cX7_changed 82 = .ok (.sipush 1152, 3) := by decide +kernel
theorem dX7_changed_85 : decode cX7_changed 85 = .ok (.iload_n 1, 1) := by decide +kernel
theorem dX7_changed_86 : decode cX7_changed 86 = .ok (.imul, 1) := by decide +kernel
theorem dX7_changed_87 : decode cX7_changed 87 = .ok (.iload_n 2, 1) := by decide +kernel
theorem dX7_changed_88 : decode cX7_changed 88 = .ok (.iadd, 1) := by decide +kernel
theorem dX7_changed_89 : decode cX7_changed 89 = .ok (.aload_n 0, 1) := by decide +kernel
theorem dX7_changed_90 : decode cX7_changed 90 = .ok (.getfield 26, 3) := by decide +kernel
theorem dX7_changed_93 : decode cX7_changed 93 = .ok (.iload_n 2, 1) := by decide +kernel
theorem dX7_changed_94 : decode cX7_changed 94 = .ok (.iaload, 1) := by decide +kernel
theorem dX7_changed_95 : decode cX7_changed 95 = .ok (.iastore, 1) := by decide +kernel
theorem dX7_changed_96 : decode cX7_changed 96 = .ok (.iinc 2 1, 3) := by decide +kernel
theorem dX7_changed_99 : decode cX7_changed 99 = .ok (.goto (-63), 3) := by decide +kernel
theorem dX7_changed_102 : decode cX7_changed 102 = .ok (.iinc 1 1, 3) := by decide +kernel
theorem dX7_changed_105 : decode cX7_changed 105 = .ok (.goto (-81), 3) := by decide +kernel
theorem dX7_changed_108 : decode cX7_changed 108 = .ok (.aload_n 0, 1) := by decide +kernel
theorem dX7_changed_109 : decode cX7_changed 109 = .ok (.invokevirtual 116, 3) := by decide +kernel
theorem dX7_changed_112 : decode cX7_changed 112 = .ok (.ireturn, 1) := by decide +kernel
theorem dX7_collect_0 : decode cX7_collect 0 = .ok (.iconst 0, 1) := by decide +kernel
theorem dX7_collect_1 : decode cX7_collect 1 = .ok (.istore_n 3, 1) := by decide +kernel
theorem dX7_collect_2 : decode cX7_collect 2 = .ok (.iload_n 3, 1) := by decide +kernel
theorem dX7_collect_3 : decode cX7_collect 3 = .ok (.aload_n 0, 1) := by decide +kernel
theorem dX7_collect_4 : decode cX7_collect 4 = .ok (.getfield 120, 3) := by decide +kernel
theorem dX7_collect_7 : decode cX7_collect 7 = .ok (.if_icmp .ge 19, 3) := by decide +kernel
theorem dX7_collect_10 : decode cX7_collect 10 = .ok (.aload_n 0, 1) := by decide +kernel
theorem dX7_collect_11 : decode cX7_collect 11 = .ok (.getfield 33, 3) := by decide +kernel
theorem dX7_collect_14 : decode cX7_collect 14 = .ok (.iload_n 3, 1) := by decide +kernel
theorem dX7_collect_15 : decode cX7_collect 15 = .ok (.iaload, 1) := by decide +kernel
theorem dX7_collect_16 : decode cX7_collect 16 = .ok (.iload_n 1, 1) := by decide +kernel
theorem dX7_collect_17 : decode cX7_collect 17 = .ok (.if_icmp .eq 9, 3) := by decide +kernel
theorem dX7_collect_20 : decode cX7_collect 20 = .ok (.iinc 3 1, 3) := by decide +kernel
theorem dX7_collect_23 : decode cX7_collect 23 = .ok (.goto (-21), 3) := by decide +kernel
theorem dX7_collect_26 : decode cX7_collect 26 = .ok (.iload_n 3, 1) := by decide +kernel
theorem dX7_collect_27 : decode cX7_collect 27 = .ok (.bipush 40, 2) := by decide +kernel
theorem dX7_collect_29 : decode cX7_collect 29 = .ok (.if_icmp .ne 6, 3) := by decide +kernel
theorem dX7_collect_32 : decode cX7_collect 32 = .ok (.bipush (-3), 2) := by decide +kernel
theorem dX7_collect_34 : decode cX7_collect 34 = .ok (.ireturn, 1) := by decide +kernel
theorem dX7_collect_35 : decode cX7_collect 35 = .ok (.aload_n 0, 1) := by decide +kernel
theorem dX7_collect_36 : decode cX7_collect 36 = .ok (.getfield 33, 3) := by decide +kernel
theorem dX7_collect_39 : decode cX7_collect 39 = .ok (.iload_n 3, 1) := by decide +kernel
theorem dX7_collect_40 : decode cX7_collect 40 = .ok (.iload_n 1, 1) := by decide +kernel
theorem dX7_collect_41 : decode cX7_collect 41 = .ok (.iastore, 1) := by decide +kernel
theorem dX7_collect_42 : decode cX7_collect 42 = .ok (.aload_n 0, 1) := by decide +kernel
theorem dX7_collect_43 : decode cX7_collect 43 = .ok (.getfield 36, 3) := by decide +kernel
theorem dX7_collect_46 : decode cX7_collect 46 = .ok (.iload_n 3, 1) := by decide +kernel
theorem dX7_collect_47 : decode cX7_collect 47 = .ok (.iload_n 2, 1) := by decide +kernel
theorem dX7_collect_48 : decode cX7_collect 48 = .ok (.iastore, 1) := by decide +kernel
theorem dX7_collect_49 : decode cX7_collect 49 = .ok (.aload_n 0, 1) := by decide +kernel
theorem dX7_collect_50 : decode cX7_collect 50 = .ok (.aload_n 0, 1) := by decide +kernel
theorem dX7_collect_51 : decode cX7_collect 51 = .ok (.getfield 120, 3) := by decide +kernel
theorem dX7_collect_54 : decode cX7_collect 54 = .ok (.iload_n 3, 1) := by decide +kernel
theorem dX7_collect_55 : decode cX7_collect 55 = .ok (.iconst 1, 1) := by decide +kernel
theorem dX7_collect_56 : decode cX7_collect 56 = .ok (.iadd, 1) := by decide +kernel
theorem dX7_collect_57 : decode cX7_collect 57 = .ok (.invokestatic 87, 3) := by decide +kernel
theorem dX7_collect_60 : decode cX7_collect 60 = .ok (.putfield 120, 3) := by decide +kernel
theorem dX7_collect_63 : decode cX7_collect 63 = .ok (.aload_n 0, 1) := by decide +kernel
theorem dX7_collect_64 : decode cX7_collect 64 = .ok (.getfield 120, 3) := by decide +kernel
theorem dX7_collect_67 : decode cX7_collect 67 = .ok (.ireturn, 1) := by decide +kernel
theorem dX7_isType_0 : decode cX7_isType 0 = .ok (.iload_n 0, 1) := by decide +kernel
theorem dX7_isType_1 : decode cX7_isType 1 = .ok (.iconst 0, 1) := by decide +kernel
theorem dX7_isType_2 : decode cX7_isType 2 = .ok (.bipush 7, 2) := by decide +kernel
theorem dX7_isType_4 : decode cX7_isType 4 = .ok (.invokestatic 57, 3) := by decide +kernel
theorem dX7_isType_7 : decode cX7_isType 7 = .ok (.ireturn, 1) := by decide +kernel
theorem dX7_set_0 : decode cX7_set 0 = .ok (.iload_n 1, 1) := by decide +kernel
theorem dX7_set_1 : decode cX7_set 1 = .ok (.iload_n 2, 1) := by decide +kernel
theorem dX7_set_2 : decode cX7_set 2 = .ok (.iload_n 3, 1) := by decide +kernel
theorem dX7_set_3 : decode cX7_set 3 = .ok (.invokestatic 71, 3) := by decide +kernel
theorem dX7_set_6 : decode cX7_set 6 = .ok (.ifCond .eq 11, 3) := by decide +kernel
theorem dX7_set_9 : decode cX7_set 9 = .ok (.iload 4, 2) := by decide +kernel
theorem dX7_set_11 : decode cX7_set 11 = .ok (.invokestatic 123, 3) := by decide +kernel
theorem dX7_set_14 : decode cX7_set 14 = .ok (.ifCond .ne 5, 3) := by decide +kernel
theorem dX7_set_17 : decode cX7_set 17 = .ok (.iconst (-1), 1) := by decide +kernel
theorem dX7_set_18 : decode cX7_set 18 = .ok (.ireturn, 1) := by decide +kernel
theorem dX7_set_19 : decode cX7_set 19 = .ok (.aload_n 0, 1) := by decide +kernel
theorem dX7_set_20 : decode cX7_set 20 = .ok (.getfield 127, 3) := by decide +kernel
theorem dX7_set_23 : decode cX7_set 23 = .ok (.ifCond .eq 16, 3) := by decide +kernel
theorem dX7_set_26 : decode cX7_set 26 = .ok (.aload_n 0, 1) := by decide +kernel
theorem dX7_set_27 : decode cX7_set 27 = .ok (.iload_n 1, 1) := by decide +kernel
theorem dX7_set_28 : decode cX7_set 28 = .ok (.iload_n 2, 1) := by decide +kernel
theorem dX7_set_29 : decode cX7_set 29 = .ok (.iload_n 3, 1) := by decide +kernel
theorem dX7_set_30 : decode cX7_set 30 = .ok (.invokestatic 74, 3) := by decide +kernel
theorem dX7_set_33 : decode cX7_set 33 = .ok (.iload 4, 2) := by decide +kernel
theorem dX7_set_35 : decode cX7_set 35 = .ok (.invokevirtual 131, 3) := by decide +kernel
theorem dX7_set_38 : decode cX7_set 38 = .ok (.ireturn, 1) := by decide +kernel
theorem dX7_set_39 : decode cX7_set 39 = .ok (.aload_n 0, 1) := by decide +kernel
theorem dX7_set_40 : decode cX7_set 40 = .ok (.invokevirtual 134, 3) := by decide +kernel
theorem dX7_set_43 : decode cX7_set 43 = .ok (.aload_n 0, 1) := by decide +kernel
theorem dX7_set_44 : decode cX7_set 44 = .ok (.getfield 9, 3) := by decide +kernel
theorem dX7_set_47 : decode cX7_set 47 = .ok (.iload_n 1, 1) := by decide +kernel
theorem dX7_set_48 : decode cX7_set 48 = .ok (.iload_n 2, 1) := by decide +kernel
theorem dX7_set_49 : decode cX7_set 49 = .ok (.iload_n 3, 1) := by decide +kernel
theorem dX7_set_50 : decode cX7_set 50 = .ok (.invokestatic 74, 3) := by decide +kernel
theorem dX7_set_53 : decode cX7_set 53 = .ok (.iload 4, 2) := by decide +kernel
theorem dX7_set_55 : decode cX7_set 55 = .ok (.iastore, 1) := by decide +kernel
theorem dX7_set_56 : decode cX7_set 56 = .ok (.aload_n 0, 1) := by decide +kernel
theorem dX7_set_57 : decode cX7_set 57 = .ok (.invokevirtual 137, 3) := by decide +kernel
theorem dX7_set_60 : decode cX7_set 60 = .ok (.ireturn, 1) := by decide +kernel
theorem dX7_openBatch_0 : decode cX7_openBatch 0 = .ok (.aload_n 0, 1) := by decide +kernel
theorem dX7_openBatch_1 : decode cX7_openBatch 1 = .ok (.getfield 127, 3) := by decide +kernel
theorem dX7_openBatch_4 : decode cX7_openBatch 4 = .ok (.ifCond .eq 6, 3) := by decide +kernel
theorem dX7_openBatch_7 : decode cX7_openBatch 7 = .ok (.bipush (-5), 2) := by decide +kernel
theorem dX7_openBatch_9 : decode cX7_openBatch 9 = .ok (.ireturn, 1) := by decide +kernel
theorem dX7_openBatch_10 : decode cX7_openBatch 10 = .ok (.aload_n 0, 1) := by decide +kernel
theorem dX7_openBatch_11 : decode cX7_openBatch 11 = .ok (.iconst 1, 1) := by decide +kernel
theorem dX7_openBatch_12 : decode cX7_openBatch 12 = .ok (.putfield 127, 3) := by decide +kernel
theorem dX7_openBatch_15 : decode cX7_openBatch 15 = .ok (.aload_n 0, 1) := by decide +kernel
theorem dX7_openBatch_16 : decode cX7_openBatch 16 = .ok (.iconst 0, 1) := by decide +kernel
theorem dX7_openBatch_17 : decode cX7_openBatch 17 = .ok (.putfield 120, 3) := by decide +kernel
theorem dX7_openBatch_20 : decode cX7_openBatch 20 = .ok (.iconst 1, 1) := by decide +kernel
theorem dX7_openBatch_21 : decode cX7_openBatch 21 = .ok (.ireturn, 1) := by decide +kernel
theorem dX7_closeBatch_0 : decode cX7_closeBatch 0 = .ok (.aload_n 0, 1) := by decide +kernel
theorem dX7_closeBatch_1 : decode cX7_closeBatch 1 = .ok (.getfield 127, 3) := by decide +kernel
theorem dX7_closeBatch_4 : decode cX7_closeBatch 4 = .ok (.ifCond .ne 6, 3) := by decide +kernel
theorem dX7_closeBatch_7 : decode cX7_closeBatch 7 = .ok (.bipush (-5), 2) := by decide +kernel
theorem dX7_closeBatch_9 : decode cX7_closeBatch 9 = .ok (.ireturn, 1) := by decide +kernel
theorem dX7_closeBatch_10 : decode cX7_closeBatch 10 = .ok (.aload_n 0, 1) := by decide +kernel
theorem dX7_closeBatch_11 : decode cX7_closeBatch 11 = .ok (.iconst 0, 1) := by decide +kernel
theorem dX7_closeBatch_12 : decode cX7_closeBatch 12 = .ok (.putfield 127, 3) := by decide +kernel
theorem dX7_closeBatch_15 : decode cX7_closeBatch 15 = .ok (.aload_n 0, 1) := by decide +kernel
theorem dX7_closeBatch_16 : decode cX7_closeBatch 16 = .ok (.invokevirtual 134, 3) := by decide +kernel
theorem dX7_closeBatch_19 : decode cX7_closeBatch 19 = .ok (.iconst 0, 1) := by decide +kernel
theorem dX7_closeBatch_20 : decode cX7_closeBatch 20 = .ok (.istore_n 1, 1) := by decide +kernel
theorem dX7_closeBatch_21 : decode cX7_closeBatch 21 = .ok (.iload_n 1, 1) := by decide +kernel
theorem dX7_closeBatch_22 : decode cX7_closeBatch 22 = .ok (.aload_n 0, 1) := by decide +kernel
theorem dX7_closeBatch_23 : decode cX7_closeBatch 23 = .ok (.getfield 120, 3) := by decide +kernel
theorem dX7_closeBatch_26 : decode cX7_closeBatch 26 = .ok (.if_icmp .ge 26, 3) := by decide +kernel
theorem dX7_closeBatch_29 : decode cX7_closeBatch 29 = .ok (.aload_n 0, 1) := by decide +kernel
theorem dX7_closeBatch_30 : decode cX7_closeBatch 30 = .ok (.getfield 9, 3) := by decide +kernel
theorem dX7_closeBatch_33 : decode cX7_closeBatch 33 = .ok (.aload_n 0, 1) := by decide +kernel
theorem dX7_closeBatch_34 : decode cX7_closeBatch 34 = .ok (.getfield 33, 3) := by decide +kernel
theorem dX7_closeBatch_37 : decode cX7_closeBatch 37 = .ok (.iload_n 1, 1) := by decide +kernel
theorem dX7_closeBatch_38 : decode cX7_closeBatch 38 = .ok (.iaload, 1) := by decide +kernel
theorem dX7_closeBatch_39 : decode cX7_closeBatch 39 = .ok (.aload_n 0, 1) := by decide +kernel
theorem dX7_closeBatch_40 : decode cX7_closeBatch 40 = .ok (.getfield 36, 3) := by decide +kernel
theorem dX7_closeBatch_43 : decode cX7_closeBatch 43 = .ok (.iload_n 1, 1) := by decide +kernel
theorem dX7_closeBatch_44 : decode cX7_closeBatch 44 = .ok (.iaload, 1) := by decide +kernel
theorem dX7_closeBatch_45 : decode cX7_closeBatch 45 = .ok (.iastore, 1) := by decide +kernel
theorem dX7_closeBatch_46 : decode cX7_closeBatch 46 = .ok (.iinc 1 1, 3) := by decide +kernel
theorem dX7_closeBatch_49 : decode cX7_closeBatch 49 = .ok (.goto (-28), 3) := by decide +kernel
theorem dX7_closeBatch_52 : decode cX7_closeBatch 52 = .ok (.aload_n 0, 1) := by decide +kernel
theorem dX7_closeBatch_53 : decode cX7_closeBatch 53 = .ok (.invokevirtual 137, 3) := by decide +kernel
theorem dX7_closeBatch_56 : decode cX7_closeBatch 56 = .ok (.ireturn, 1) := by decide +kernel
theorem dX7_dropBatch_0 : decode cX7_dropBatch 0 = .ok (.aload_n 0, 1) := by decide +kernel
theorem dX7_dropBatch_1 : decode cX7_dropBatch 1 = .ok (.getfield 127, 3) := by decide +kernel
theorem dX7_dropBatch_4 : decode cX7_dropBatch 4 = .ok (.ifCond .ne 6, 3) := by decide +kernel
theorem dX7_dropBatch_7 : decode cX7_dropBatch 7 = .ok (.bipush (-5), 2) := by decide +kernel
theorem dX7_dropBatch_9 : decode cX7_dropBatch 9 = .ok (.ireturn, 1) := by decide +kernel
theorem dX7_dropBatch_10 : decode cX7_dropBatch 10 = .ok (.aload_n 0, 1) := by decide +kernel
theorem dX7_dropBatch_11 : decode cX7_dropBatch 11 = .ok (.iconst 0, 1) := by decide +kernel
theorem dX7_dropBatch_12 : decode cX7_dropBatch 12 = .ok (.putfield 127, 3) := by decide +kernel
theorem dX7_dropBatch_15 : decode cX7_dropBatch 15 = .ok (.aload_n 0, 1) := by decide +kernel
theorem dX7_dropBatch_16 : decode cX7_dropBatch 16 = .ok (.getfield 120, 3) := by decide +kernel
theorem dX7_dropBatch_19 : decode cX7_dropBatch 19 = .ok (.ireturn, 1) := by decide +kernel
theorem dX7_lays_0 : decode cX7_lays 0 = .ok (.iconst 0, 1) := by decide +kernel
theorem dX7_lays_1 : decode cX7_lays 1 = .ok (.istore 8, 2) := by decide +kernel
theorem dX7_lays_3 : decode cX7_lays 3 = .ok (.iload 8, 2) := by decide +kernel
theorem dX7_lays_5 : decode cX7_lays 5 = .ok (.sipush 1152, 3) := by decide +kernel
theorem dX7_lays_8 : decode cX7_lays 8 = .ok (.if_icmp .ge 82, 3) := by decide +kernel
theorem dX7_lays_11 : decode cX7_lays 11 = .ok (.iload 8, 2) := by decide +kernel
theorem dX7_lays_13 : decode cX7_lays 13 = .ok (.invokestatic 68, 3) := by decide +kernel
theorem dX7_lays_16 : decode cX7_lays 16 = .ok (.iload_n 1, 1) := by decide +kernel
theorem dX7_lays_17 : decode cX7_lays 17 = .ok (.iload 4, 2) := by decide +kernel
theorem dX7_lays_19 : decode cX7_lays 19 = .ok (.invokestatic 57, 3) := by decide +kernel
theorem dX7_lays_22 : decode cX7_lays 22 = .ok (.ifCond .eq 35, 3) := by decide +kernel
theorem dX7_lays_25 : decode cX7_lays 25 = .ok (.iload 8, 2) := by decide +kernel
theorem dX7_lays_27 : decode cX7_lays 27 = .ok (.invokestatic 65, 3) := by decide +kernel
theorem dX7_lays_30 : decode cX7_lays 30 = .ok (.iload_n 2, 1) := by decide +kernel
theorem dX7_lays_31 : decode cX7_lays 31 = .ok (.iload 5, 2) := by decide +kernel
theorem dX7_lays_33 : decode cX7_lays 33 = .ok (.invokestatic 57, 3) := by decide +kernel
theorem dX7_lays_36 : decode cX7_lays 36 = .ok (.ifCond .eq 21, 3) := by decide +kernel
theorem dX7_lays_39 : decode cX7_lays 39 = .ok (.iload 8, 2) := by decide +kernel
theorem dX7_lays_41 : decode cX7_lays 41 = .ok (.invokestatic 61, 3) := by decide +kernel
theorem dX7_lays_44 : decode cX7_lays 44 = .ok (.iload_n 3, 1) := by decide +kernel
theorem dX7_lays_45 : decode cX7_lays 45 = .ok (.iload 6, 2) := by decide +kernel
theorem dX7_lays_47 : decode cX7_lays 47 = .ok (.invokestatic 57, 3) := by decide +kernel
theorem dX7_lays_50 : decode cX7_lays 50 = .ok (.ifCond .eq 7, 3) := by decide +kernel
theorem dX7_lays_53 : decode cX7_lays 53 = .ok (.iconst 1, 1) := by decide +kernel
theorem dX7_lays_54 : decode cX7_lays 54 = .ok (.goto 4, 3) := by decide +kernel
theorem dX7_lays_57 : decode cX7_lays 57 = .ok (.iconst 0, 1) := by decide +kernel
theorem dX7_lays_58 : decode cX7_lays 58 = .ok (.istore 9, 2) := by decide +kernel
theorem dX7_lays_60 : decode cX7_lays 60 = .ok (.aload_n 0, 1) := by decide +kernel
theorem dX7_lays_61 : decode cX7_lays 61 = .ok (.getfield 9, 3) := by decide +kernel
theorem dX7_lays_64 : decode cX7_lays 64 = .ok (.iload 8, 2) := by decide +kernel
theorem dX7_lays_66 : decode cX7_lays 66 = .ok (.iload 9, 2) := by decide +kernel
theorem dX7_lays_68 : decode cX7_lays 68 = .ok (.ifCond .eq 8, 3) := by decide +kernel
theorem dX7_lays_71 : decode cX7_lays 71 = .ok (.iload 7, 2) := by decide +kernel
theorem dX7_lays_73 : decode cX7_lays 73 = .ok (.goto 10, 3) := by decide +kernel
theorem dX7_lays_76 : decode cX7_lays 76 = .ok (.aload_n 0, 1) := by decide +kernel
theorem dX7_lays_77 : decode cX7_lays 77 = .ok (.getfield 9, 3) := by decide +kernel
theorem dX7_lays_80 : decode cX7_lays 80 = .ok (.iload 8, 2) := by decide +kernel
theorem dX7_lays_82 : decode cX7_lays 82 = .ok (.iaload, 1) := by decide +kernel
theorem dX7_lays_83 : decode cX7_lays 83 = .ok (.iastore, 1) := by decide +kernel
theorem dX7_lays_84 : decode cX7_lays 84 = .ok (.iinc 8 1, 3) := by decide +kernel
theorem dX7_lays_87 : decode cX7_lays 87 = .ok (.goto (-84), 3) := by decide +kernel
theorem dX7_lays_90 : decode cX7_lays 90 = .ok (.return_, 1) := by decide +kernel
theorem dX7_fill_0 : decode cX7_fill 0 = .ok (.aload_n 0, 1) := by decide +kernel
theorem dX7_fill_1 : decode cX7_fill 1 = .ok (.getfield 127, 3) := by decide +kernel
theorem dX7_fill_4 : decode cX7_fill 4 = .ok (.ifCond .eq 6, 3) := by decide +kernel
theorem dX7_fill_7 : decode cX7_fill 7 = .ok (.bipush (-5), 2) := by decide +kernel
theorem dX7_fill_9 : decode cX7_fill 9 = .ok (.ireturn, 1) := by decide +kernel
theorem dX7_fill_10 : decode cX7_fill 10 = .ok (.iload_n 1, 1) := by decide +kernel
theorem dX7_fill_11 : decode cX7_fill 11 = .ok (.iload_n 2, 1) := by decide +kernel
theorem dX7_fill_12 : decode cX7_fill 12 = .ok (.iload_n 3, 1) := by decide +kernel
theorem dX7_fill_13 : decode cX7_fill 13 = .ok (.invokestatic 71, 3) := by decide +kernel
theorem dX7_fill_16 : decode cX7_fill 16 = .ok (.ifCond .eq 11, 3) := by decide +kernel
theorem dX7_fill_19 : decode cX7_fill 19 = .ok (.iload 6, 2) := by decide +kernel
theorem dX7_fill_21 : decode cX7_fill 21 = .ok (.invokestatic 123, 3) := by decide +kernel
theorem dX7_fill_24 : decode cX7_fill 24 = .ok (.ifCond .ne 5, 3) := by decide +kernel
theorem dX7_fill_27 : decode cX7_fill 27 = .ok (.iconst (-1), 1) := by decide +kernel
theorem dX7_fill_28 : decode cX7_fill 28 = .ok (.ireturn, 1) := by decide +kernel
theorem dX7_fill_29 : decode cX7_fill 29 = .ok (.iload 4, 2) := by decide +kernel
theorem dX7_fill_31 : decode cX7_fill 31 = .ok (.iconst 1, 1) := by decide +kernel
theorem dX7_fill_32 : decode cX7_fill 32 = .ok (.bipush 12, 2) := by decide +kernel
theorem dX7_fill_34 : decode cX7_fill 34 = .ok (.iload_n 1, 1) := by decide +kernel
theorem dX7_fill_35 : decode cX7_fill 35 = .ok (.iload_n 3, 1) := by decide +kernel
theorem dX7_fill_36 : decode cX7_fill 36 = .ok (.invokestatic 87, 3) := by decide +kernel
theorem dX7_fill_39 : decode cX7_fill 39 = .ok (.isub, 1) := by decide +kernel
theorem dX7_fill_40 : decode cX7_fill 40 = .ok (.invokestatic 57, 3) := by decide +kernel
theorem dX7_fill_43 : decode cX7_fill 43 = .ok (.ifCond .eq 16, 3) := by decide +kernel
theorem dX7_fill_46 : decode cX7_fill 46 = .ok (.iload 5, 2) := by decide +kernel
theorem dX7_fill_48 : decode cX7_fill 48 = .ok (.iconst 1, 1) := by decide +kernel
theorem dX7_fill_49 : decode cX7_fill 49 = .ok (.bipush 8, 2) := by decide +kernel
theorem dX7_fill_51 : decode cX7_fill 51 = .ok (.iload_n 2, 1) := by decide +kernel
theorem dX7_fill_52 : decode cX7_fill 52 = .ok (.isub, 1) := by decide +kernel
theorem dX7_fill_53 : decode cX7_fill 53 = .ok (.invokestatic 57, 3) := by decide +kernel
theorem dX7_fill_56 : decode cX7_fill 56 = .ok (.ifCond .ne 6, 3) := by decide +kernel
theorem dX7_fill_59 : decode cX7_fill 59 = .ok (.bipush (-2), 2) := by decide +kernel
theorem dX7_fill_61 : decode cX7_fill 61 = .ok (.ireturn, 1) := by decide +kernel
theorem dX7_fill_62 : decode cX7_fill 62 = .ok (.aload_n 0, 1) := by decide +kernel
theorem dX7_fill_63 : decode cX7_fill 63 = .ok (.invokevirtual 134, 3) := by decide +kernel
theorem dX7_fill_66 : decode cX7_fill 66 = .ok (.aload_n 0, 1) := by decide +kernel
theorem dX7_fill_67 : decode cX7_fill 67 = .ok (.iload_n 1, 1) := by decide +kernel
theorem dX7_fill_68 : decode cX7_fill 68 = .ok (.iload_n 2, 1) := by decide +kernel
theorem dX7_fill_69 : decode cX7_fill 69 = .ok (.iload_n 3, 1) := by decide +kernel
theorem dX7_fill_70 : decode cX7_fill 70 = .ok (.iload_n 1, 1) := by decide +kernel
theorem dX7_fill_71 : decode cX7_fill 71 = .ok (.iload 4, 2) := by decide +kernel
theorem dX7_fill_73 : decode cX7_fill 73 = .ok (.iadd, 1) := by decide +kernel
theorem dX7_fill_74 : decode cX7_fill 74 = .ok (.iconst 1, 1) := by decide +kernel
theorem dX7_fill_75 : decode cX7_fill 75 = .ok (.isub, 1) := by decide +kernel
theorem dX7_fill_76 : decode cX7_fill 76 = .ok (.iload_n 2, 1) := by decide +kernel
theorem dX7_fill_77 : decode cX7_fill 77 = .ok (.iload 5, 2) := by decide +kernel
theorem dX7_fill_79 : decode cX7_fill 79 = .ok (.iadd, 1) := by decide +kernel
theorem dX7_fill_80 : decode cX7_fill 80 = .ok (.iconst 1, 1) := by decide +kernel
theorem dX7_fill_81 : decode cX7_fill 81 = .ok (.isub, 1) := by decide +kernel
theorem dX7_fill_82 : decode cX7_fill 82 = .ok (.iload_n 3, 1) := by decide +kernel
theorem dX7_fill_83 : decode cX7_fill 83 = .ok (.iload 4, 2) := by decide +kernel
theorem dX7_fill_85 : decode cX7_fill 85 = .ok (.iadd, 1) := by decide +kernel
theorem dX7_fill_86 : decode cX7_fill 86 = .ok (.iconst 1, 1) := by decide +kernel
theorem dX7_fill_87 : decode cX7_fill 87 = .ok (.isub, 1) := by decide +kernel
theorem dX7_fill_88 : decode cX7_fill 88 = .ok (.iload 6, 2) := by decide +kernel
theorem dX7_fill_90 : decode cX7_fill 90 = .ok (.invokevirtual 140, 3) := by decide +kernel
theorem dX7_fill_93 : decode cX7_fill 93 = .ok (.aload_n 0, 1) := by decide +kernel
theorem dX7_fill_94 : decode cX7_fill 94 = .ok (.invokevirtual 137, 3) := by decide +kernel
theorem dX7_fill_97 : decode cX7_fill 97 = .ok (.ireturn, 1) := by decide +kernel
theorem dX7_setLoss_0 : decode cX7_setLoss 0 = .ok (.aload_n 0, 1) := by decide +kernel
theorem dX7_setLoss_1 : decode cX7_setLoss 1 = .ok (.getfield 127, 3) := by decide +kernel
theorem dX7_setLoss_4 : decode cX7_setLoss 4 = .ok (.ifCond .eq 6, 3) := by decide +kernel
theorem dX7_setLoss_7 : decode cX7_setLoss 7 = .ok (.bipush (-5), 2) := by decide +kernel
theorem dX7_setLoss_9 : decode cX7_setLoss 9 = .ok (.ireturn, 1) := by decide +kernel
theorem dX7_setLoss_10 : decode cX7_setLoss 10 = .ok (.iload_n 1, 1) := by decide +kernel
theorem dX7_setLoss_11 : decode cX7_setLoss 11 = .ok (.invokestatic 123, 3) := by decide +kernel
theorem dX7_setLoss_14 : decode cX7_setLoss 14 = .ok (.ifCond .eq 12, 3) := by decide +kernel
theorem dX7_setLoss_17 : decode cX7_setLoss 17 = .ok (.iload_n 2, 1) := by decide +kernel
theorem dX7_setLoss_18 : decode cX7_setLoss 18 = .ok (.iconst 0, 1) := by decide +kernel
theorem dX7_setLoss_19 : decode cX7_setLoss 19 = .ok (.iconst 3, 1) := by decide +kernel
theorem dX7_setLoss_20 : decode cX7_setLoss 20 = .ok (.invokestatic 57, 3) := by decide +kernel
theorem dX7_setLoss_23 : decode cX7_setLoss 23 = .ok (.ifCond .ne 5, 3) := by decide +kernel
theorem dX7_setLoss_26 : decode cX7_setLoss 26 = .ok (.iconst (-1), 1) := by decide +kernel
theorem dX7_setLoss_27 : decode cX7_setLoss 27 = .ok (.ireturn, 1) := by decide +kernel
theorem dX7_setLoss_28 : decode cX7_setLoss 28 = .ok (.iload_n 3, 1) := by decide +kernel
theorem dX7_setLoss_29 : decode cX7_setLoss 29 = .ok (.iconst 0, 1) := by decide +kernel
theorem dX7_setLoss_30 : decode cX7_setLoss 30 = .ok (.bipush 15, 2) := by decide +kernel
theorem dX7_setLoss_32 : decode cX7_setLoss 32 = .ok (.invokestatic 57, 3) := by decide +kernel
theorem dX7_setLoss_35 : decode cX7_setLoss 35 = .ok (.ifCond .ne 6, 3) := by decide +kernel
theorem dX7_setLoss_38 : decode cX7_setLoss 38 = .ok (.bipush (-2), 2) := by decide +kernel
theorem dX7_setLoss_40 : decode cX7_setLoss 40 = .ok (.ireturn, 1) := by decide +kernel
theorem dX7_setLoss_41 : decode cX7_setLoss 41 = .ok (.aload_n 0, 1) := by decide +kernel
theorem dX7_setLoss_42 : decode cX7_setLoss 42 = .ok (.invokevirtual 134, 3) := by decide +kernel
theorem dX7_setLoss_45 : decode cX7_setLoss 45 = .ok (.aload_n 0, 1) := by decide +kernel
theorem dX7_setLoss_46 : decode cX7_setLoss 46 = .ok (.getfield 9, 3) := by decide +kernel
theorem dX7_setLoss_49 : decode cX7_setLoss 49 = .ok (.sipush 1152, 3) := by decide +kernel
theorem dX7_setLoss_52 : decode cX7_setLoss 52 = .ok (.iconst 4, 1) := by decide +kernel
theorem dX7_setLoss_53 : decode cX7_setLoss 53 = .ok (.iload_n 1, 1) := by decide +kernel
theorem dX7_setLoss_54 : decode cX7_setLoss 54 = .ok (.imul, 1) := by decide +kernel
theorem dX7_setLoss_55 : decode cX7_setLoss 55 = .ok (.iadd, 1) := by decide +kernel
theorem dX7_setLoss_56 : decode cX7_setLoss 56 = .ok (.iload_n 2, 1) := by decide +kernel
theorem dX7_setLoss_57 : decode cX7_setLoss 57 = .ok (.iadd, 1) := by decide +kernel
theorem dX7_setLoss_58 : decode cX7_setLoss 58 = .ok (.iload_n 3, 1) := by decide +kernel
theorem dX7_setLoss_59 : decode cX7_setLoss 59 = .ok (.iastore, 1) := by decide +kernel
theorem dX7_setLoss_60 : decode cX7_setLoss 60 = .ok (.aload_n 0, 1) := by decide +kernel
theorem dX7_setLoss_61 : decode cX7_setLoss 61 = .ok (.invokevirtual 137, 3) := by decide +kernel
theorem dX7_setLoss_64 : decode cX7_setLoss 64 = .ok (.ireturn, 1) := by decide +kernel
theorem dX7_setEmission_0 : decode cX7_setEmission 0 = .ok (.aload_n 0, 1) := by decide +kernel
theorem dX7_setEmission_1 : decode cX7_setEmission 1 = .ok (.getfield 127, 3) := by decide +kernel
theorem dX7_setEmission_4 : decode cX7_setEmission 4 = .ok (.ifCond .eq 6, 3) := by decide +kernel
theorem dX7_setEmission_7 : decode cX7_setEmission 7 = .ok (.bipush (-5), 2) := by decide +kernel
theorem dX7_setEmission_9 : decode cX7_setEmission 9 = .ok (.ireturn, 1) := by decide +kernel
theorem dX7_setEmission_10 : decode cX7_setEmission 10 = .ok (.iload_n 1, 1) := by decide +kernel
theorem dX7_setEmission_11 : decode cX7_setEmission 11 = .ok (.invokestatic 123, 3) := by decide +kernel
theorem dX7_setEmission_14 : decode cX7_setEmission 14 = .ok (.ifCond .eq 12, 3) := by decide +kernel
theorem dX7_setEmission_17 : decode cX7_setEmission 17 = .ok (.iload_n 2, 1) := by decide +kernel
theorem dX7_setEmission_18 : decode cX7_setEmission 18 = .ok (.iconst 0, 1) := by decide +kernel
theorem dX7_setEmission_19 : decode cX7_setEmission 19 = .ok (.iconst 2, 1) := by decide +kernel
theorem dX7_setEmission_20 : decode cX7_setEmission 20 = .ok (.invokestatic 57, 3) := by decide +kernel
theorem dX7_setEmission_23 : decode cX7_setEmission 23 = .ok (.ifCond .ne 5, 3) := by decide +kernel
theorem dX7_setEmission_26 : decode cX7_setEmission 26 = .ok (.iconst (-1), 1) := by decide +kernel
theorem dX7_setEmission_27 : decode cX7_setEmission 27 = .ok (.ireturn, 1) := by decide +kernel
theorem dX7_setEmission_28 : decode cX7_setEmission 28 = .ok (.iload_n 3, 1) := by decide +kernel
theorem dX7_setEmission_29 : decode cX7_setEmission 29 = .ok (.iconst 0, 1) := by decide +kernel
theorem dX7_setEmission_30 : decode cX7_setEmission 30 = .ok (.bipush 15, 2) := by decide +kernel
theorem dX7_setEmission_32 : decode cX7_setEmission 32 = .ok (.invokestatic 57, 3) := by decide +kernel
theorem dX7_setEmission_35 : decode cX7_setEmission 35 = .ok (.ifCond .ne 6, 3) := by decide +kernel
theorem dX7_setEmission_38 : decode cX7_setEmission 38 = .ok (.bipush (-2), 2) := by decide +kernel
theorem dX7_setEmission_40 : decode cX7_setEmission 40 = .ok (.ireturn, 1) := by decide +kernel
theorem dX7_setEmission_41 : decode cX7_setEmission 41 = .ok (.aload_n 0, 1) := by decide +kernel
theorem dX7_setEmission_42 : decode cX7_setEmission 42 = .ok (.invokevirtual 134, 3) := by decide +kernel
theorem dX7_setEmission_45 : decode cX7_setEmission 45 = .ok (.aload_n 0, 1) := by decide +kernel
theorem dX7_setEmission_46 : decode cX7_setEmission 46 = .ok (.getfield 9, 3) := by decide +kernel
theorem dX7_setEmission_49 : decode cX7_setEmission 49 = .ok (.sipush 1184, 3) := by decide +kernel
theorem dX7_setEmission_52 : decode cX7_setEmission 52 = .ok (.iconst 4, 1) := by decide +kernel
theorem dX7_setEmission_53 : decode cX7_setEmission 53 = .ok (.iload_n 1, 1) := by decide +kernel
theorem dX7_setEmission_54 : decode cX7_setEmission 54 = .ok (.imul, 1) := by decide +kernel
theorem dX7_setEmission_55 : decode cX7_setEmission 55 = .ok (.iadd, 1) := by decide +kernel
theorem dX7_setEmission_56 : decode cX7_setEmission 56 = .ok (.iload_n 2, 1) := by decide +kernel
theorem dX7_setEmission_57 : decode cX7_setEmission 57 = .ok (.iadd, 1) := by decide +kernel
theorem dX7_setEmission_58 : decode cX7_setEmission 58 = .ok (.iload_n 3, 1) := by decide +kernel
theorem dX7_setEmission_59 : decode cX7_setEmission 59 = .ok (.iastore, 1) := by decide +kernel
theorem dX7_setEmission_60 : decode cX7_setEmission 60 = .ok (.aload_n 0, 1) := by decide +kernel
theorem dX7_setEmission_61 : decode cX7_setEmission 61 = .ok (.invokevirtual 137, 3) := by decide +kernel
theorem dX7_setEmission_64 : decode cX7_setEmission 64 = .ok (.ireturn, 1) := by decide +kernel
theorem dX7_append_0 : decode cX7_append 0 = .ok (.iconst 0, 1) := by decide +kernel
theorem dX7_append_1 : decode cX7_append 1 = .ok (.istore_n 2, 1) := by decide +kernel
theorem dX7_append_2 : decode cX7_append 2 = .ok (.bipush 24, 2) := by decide +kernel
theorem dX7_append_4 : decode cX7_append 4 = .ok (.istore_n 3, 1) := by decide +kernel
theorem dX7_append_5 : decode cX7_append 5 = .ok (.iload_n 3, 1) := by decide +kernel
theorem dX7_append_6 : decode cX7_append 6 = .ok (.ifCond .lt 51, 3) := by decide +kernel
theorem dX7_append_9 : decode cX7_append 9 = .ok (.iload_n 1, 1) := by decide +kernel
theorem dX7_append_10 : decode cX7_append 10 = .ok (.iload_n 3, 1) := by decide +kernel
theorem dX7_append_11 : decode cX7_append 11 = .ok (.iushr, 1) := by decide +kernel
theorem dX7_append_12 : decode cX7_append 12 = .ok (.sipush 255, 3) := by decide +kernel
theorem dX7_append_15 : decode cX7_append 15 = .ok (.iand, 1) := by decide +kernel
theorem dX7_append_16 : decode cX7_append 16 = .ok (.istore 4, 2) := by decide +kernel
theorem dX7_append_18 : decode cX7_append 18 = .ok (.iload 4, 2) := by decide +kernel
theorem dX7_append_20 : decode cX7_append 20 = .ok (.ifCond .eq 18, 3) := by decide +kernel
theorem dX7_append_23 : decode cX7_append 23 = .ok (.iload 4, 2) := by decide +kernel
theorem dX7_append_25 : decode cX7_append 25 = .ok (.bipush 33, 2) := by decide +kernel
theorem dX7_append_27 : decode cX7_append 27 = .ok (.bipush 126, 2) := by decide +kernel
theorem dX7_append_29 : decode cX7_append 29 = .ok (.invokestatic 57, 3) := by decide +kernel
theorem dX7_append_32 : decode cX7_append 32 = .ok (.ifCond .ne 6, 3) := by decide +kernel
theorem dX7_append_35 : decode cX7_append 35 = .ok (.bipush (-2), 2) := by decide +kernel
theorem dX7_append_37 : decode cX7_append 37 = .ok (.ireturn, 1) := by decide +kernel
theorem dX7_append_38 : decode cX7_append 38 = .ok (.iload_n 2, 1) := by decide +kernel
theorem dX7_append_39 : decode cX7_append 39 = .ok (.iload 4, 2) := by decide +kernel
theorem dX7_append_41 : decode cX7_append 41 = .ok (.ifCond .ne 7, 3) := by decide +kernel
theorem dX7_append_44 : decode cX7_append 44 = .ok (.iconst 0, 1) := by decide +kernel
theorem dX7_append_45 : decode cX7_append 45 = .ok (.goto 4, 3) := by decide +kernel
theorem dX7_append_48 : decode cX7_append 48 = .ok (.iconst 1, 1) := by decide +kernel
theorem dX7_append_49 : decode cX7_append 49 = .ok (.iadd, 1) := by decide +kernel
theorem dX7_append_50 : decode cX7_append 50 = .ok (.istore_n 2, 1) := by decide +kernel
theorem dX7_append_51 : decode cX7_append 51 = .ok (.iinc 3 (-8), 3) := by decide +kernel
theorem dX7_append_54 : decode cX7_append 54 = .ok (.goto (-49), 3) := by decide +kernel
theorem dX7_append_57 : decode cX7_append 57 = .ok (.aload_n 0, 1) := by decide +kernel
theorem dX7_append_58 : decode cX7_append 58 = .ok (.getfield 144, 3) := by decide +kernel
theorem dX7_append_61 : decode cX7_append 61 = .ok (.iload_n 2, 1) := by decide +kernel
theorem dX7_append_62 : decode cX7_append 62 = .ok (.iadd, 1) := by decide +kernel
theorem dX7_append_63 : decode cX7_append 63 = .ok (.bipush 60, 2) := by decide +kernel
theorem dX7_append_65 : decode cX7_append 65 = .ok (.if_icmp .le 6, 3) := by decide +kernel
theorem dX7_append_68 : decode cX7_append 68 = .ok (.bipush (-3), 2) := by decide +kernel
theorem dX7_append_70 : decode cX7_append 70 = .ok (.ireturn, 1) := by decide +kernel
theorem dX7_append_71 : decode cX7_append 71 = .ok (.bipush 24, 2) := by decide +kernel
theorem dX7_append_73 : decode cX7_append 73 = .ok (.istore_n 3, 1) := by decide +kernel
theorem dX7_append_74 : decode cX7_append 74 = .ok (.iload_n 3, 1) := by decide +kernel
theorem dX7_append_75 : decode cX7_append 75 = .ok (.ifCond .lt 44, 3) := by decide +kernel
theorem dX7_append_78 : decode cX7_append 78 = .ok (.iload_n 1, 1) := by decide +kernel
theorem dX7_append_79 : decode cX7_append 79 = .ok (.iload_n 3, 1) := by decide +kernel
theorem dX7_append_80 : decode cX7_append 80 = .ok (.iushr, 1) := by decide +kernel
theorem dX7_append_81 : decode cX7_append 81 = .ok (.sipush 255, 3) := by decide +kernel
theorem dX7_append_84 : decode cX7_append 84 = .ok (.iand, 1) := by decide +kernel
theorem dX7_append_85 : decode cX7_append 85 = .ok (.istore 4, 2) := by decide +kernel
theorem dX7_append_87 : decode cX7_append 87 = .ok (.iload 4, 2) := by decide +kernel
theorem dX7_append_89 : decode cX7_append 89 = .ok (.ifCond .eq 24, 3) := by decide +kernel
theorem dX7_append_92 : decode cX7_append 92 = .ok (.aload_n 0, 1) := by decide +kernel
theorem dX7_append_93 : decode cX7_append 93 = .ok (.getfield 39, 3) := by decide +kernel
theorem dX7_append_96 : decode cX7_append 96 = .ok (.aload_n 0, 1) := by decide +kernel
theorem dX7_append_97 : decode cX7_append 97 = .ok (.getfield 144, 3) := by decide +kernel
theorem dX7_append_100 : decode cX7_append 100 = .ok (.iload 4, 2) := by decide +kernel
theorem dX7_append_102 : decode cX7_append 102 = .ok (.iastore, 1) := by decide +kernel
theorem dX7_append_103 : decode cX7_append 103 = .ok (.aload_n 0, 1) := by decide +kernel
theorem dX7_append_104 : decode cX7_append 104 = .ok (.dup, 1) := by decide +kernel
theorem dX7_append_105 : decode cX7_append 105 = .ok (.getfield 144, 3) := by decide +kernel
theorem dX7_append_108 : decode cX7_append 108 = .ok (.iconst 1, 1) := by decide +kernel
theorem dX7_append_109 : decode cX7_append 109 = .ok (.iadd, 1) := by decide +kernel
theorem dX7_append_110 : decode cX7_append 110 = .ok (.putfield 144, 3) := by decide +kernel
theorem dX7_append_113 : decode cX7_append 113 = .ok (.iinc 3 (-8), 3) := by decide +kernel
theorem dX7_append_116 : decode cX7_append 116 = .ok (.goto (-42), 3) := by decide +kernel
theorem dX7_append_119 : decode cX7_append 119 = .ok (.aload_n 0, 1) := by decide +kernel
theorem dX7_append_120 : decode cX7_append 120 = .ok (.getfield 144, 3) := by decide +kernel
theorem dX7_append_123 : decode cX7_append 123 = .ok (.ireturn, 1) := by decide +kernel
theorem dX7_here_0 : decode cX7_here 0 = .ok (.aload_n 0, 1) := by decide +kernel
theorem dX7_here_1 : decode cX7_here 1 = .ok (.getfield 147, 3) := by decide +kernel
theorem dX7_here_4 : decode cX7_here 4 = .ok (.aload_n 0, 1) := by decide +kernel
theorem dX7_here_5 : decode cX7_here 5 = .ok (.getfield 150, 3) := by decide +kernel
theorem dX7_here_8 : decode cX7_here 8 = .ok (.if_icmp .ge 15, 3) := by decide +kernel
theorem dX7_here_11 : decode cX7_here 11 = .ok (.aload_n 0, 1) := by decide +kernel
theorem dX7_here_12 : decode cX7_here 12 = .ok (.getfield 39, 3) := by decide +kernel
theorem dX7_here_15 : decode cX7_here 15 = .ok (.aload_n 0, 1) := by decide +kernel
theorem dX7_here_16 : decode cX7_here 16 = .ok (.getfield 147, 3) := by decide +kernel
theorem dX7_here_19 : decode cX7_here 19 = .ok (.iaload, 1) := by decide +kernel
theorem dX7_here_20 : decode cX7_here 20 = .ok (.goto 4, 3) := by decide +kernel
theorem dX7_here_23 : decode cX7_here 23 = .ok (.iconst (-1), 1) := by decide +kernel
theorem dX7_here_24 : decode cX7_here 24 = .ok (.ireturn, 1) := by decide +kernel
theorem dX7_take_0 : decode cX7_take 0 = .ok (.aload_n 0, 1) := by decide +kernel
theorem dX7_take_1 : decode cX7_take 1 = .ok (.getfield 153, 3) := by decide +kernel
theorem dX7_take_4 : decode cX7_take 4 = .ok (.ifCond .ne 24, 3) := by decide +kernel
theorem dX7_take_7 : decode cX7_take 7 = .ok (.aload_n 0, 1) := by decide +kernel
theorem dX7_take_8 : decode cX7_take 8 = .ok (.invokevirtual 156, 3) := by decide +kernel
theorem dX7_take_11 : decode cX7_take 11 = .ok (.iload_n 1, 1) := by decide +kernel
theorem dX7_take_12 : decode cX7_take 12 = .ok (.if_icmp .ne 16, 3) := by decide +kernel
theorem dX7_take_15 : decode cX7_take 15 = .ok (.aload_n 0, 1) := by decide +kernel
theorem dX7_take_16 : decode cX7_take 16 = .ok (.dup, 1) := by decide +kernel
theorem dX7_take_17 : decode cX7_take 17 = .ok (.getfield 147, 3) := by decide +kernel
theorem dX7_take_20 : decode cX7_take 20 = .ok (.iconst 1, 1) := by decide +kernel
theorem dX7_take_21 : decode cX7_take 21 = .ok (.iadd, 1) := by decide +kernel
theorem dX7_take_22 : decode cX7_take 22 = .ok (.putfield 147, 3) := by decide +kernel
theorem dX7_take_25 : decode cX7_take 25 = .ok (.goto 8, 3) := by decide +kernel
theorem dX7_take_28 : decode cX7_take 28 = .ok (.aload_n 0, 1) := by decide +kernel
theorem dX7_take_29 : decode cX7_take 29 = .ok (.iconst 1, 1) := by decide +kernel
theorem dX7_take_30 : decode cX7_take 30 = .ok (.putfield 153, 3) := by decide +kernel
theorem dX7_take_33 : decode cX7_take 33 = .ok (.return_, 1) := by decide +kernel
theorem dX7_number_0 : decode cX7_number 0 = .ok (.aload_n 0, 1) := by decide +kernel
theorem dX7_number_1 : decode cX7_number 1 = .ok (.getfield 153, 3) := by decide +kernel
theorem dX7_number_4 : decode cX7_number 4 = .ok (.ifCond .ne 17, 3) := by decide +kernel
theorem dX7_number_7 : decode cX7_number 7 = .ok (.aload_n 0, 1) := by decide +kernel
theorem dX7_number_8 : decode cX7_number 8 = .ok (.invokevirtual 156, 3) := by decide +kernel
theorem dX7_number_11 : decode cX7_number 11 = .ok (.bipush 48, 2) := by decide +kernel
theorem dX7_number_13 : decode cX7_number 13 = .ok (.bipush 57, 2) := by decide +kernel
theorem dX7_number_15 : decode cX7_number 15 = .ok (.invokestatic 57, 3) := by decide +kernel
theorem dX7_number_18 : decode cX7_number 18 = .ok (.ifCond .ne 10, 3) := by decide +kernel
theorem dX7_number_21 : decode cX7_number 21 = .ok (.aload_n 0, 1) := by decide +kernel
theorem dX7_number_22 : decode cX7_number 22 = .ok (.iconst 1, 1) := by decide +kernel
theorem dX7_number_23 : decode cX7_number 23 = .ok (.putfield 153, 3) := by decide +kernel
theorem dX7_number_26 : decode cX7_number 26 = .ok (.iconst 0, 1) := by decide +kernel
theorem dX7_number_27 : decode cX7_number 27 = .ok (.ireturn, 1) := by decide +kernel
theorem dX7_number_28 : decode cX7_number 28 = .ok (.aload_n 0, 1) := by decide +kernel
theorem dX7_number_29 : decode cX7_number 29 = .ok (.invokevirtual 156, 3) := by decide +kernel
theorem dX7_number_32 : decode cX7_number 32 = .ok (.bipush 48, 2) := by decide +kernel
theorem dX7_number_34 : decode cX7_number 34 = .ok (.isub, 1) := by decide +kernel
theorem dX7_number_35 : decode cX7_number 35 = .ok (.istore_n 1, 1) := by decide +kernel
theorem dX7_number_36 : decode cX7_number 36 = .ok (.aload_n 0, 1) := by decide +kernel
theorem dX7_number_37 : decode cX7_number 37 = .ok (.dup, 1) := by decide +kernel
theorem dX7_number_38 : decode cX7_number 38 = .ok (.getfield 147, 3) := by decide +kernel
theorem dX7_number_41 : decode cX7_number 41 = .ok (.iconst 1, 1) := by decide +kernel
theorem dX7_number_42 : decode cX7_number 42 = .ok (.iadd, 1) := by decide +kernel
theorem dX7_number_43 : decode cX7_number 43 = .ok (.putfield 147, 3) := by decide +kernel
theorem dX7_number_46 : decode cX7_number 46 = .ok (.aload_n 0, 1) := by decide +kernel
theorem dX7_number_47 : decode cX7_number 47 = .ok (.invokevirtual 156, 3) := by decide +kernel
theorem dX7_number_50 : decode cX7_number 50 = .ok (.bipush 48, 2) := by decide +kernel
theorem dX7_number_52 : decode cX7_number 52 = .ok (.bipush 57, 2) := by decide +kernel
theorem dX7_number_54 : decode cX7_number 54 = .ok (.invokestatic 57, 3) := by decide +kernel
theorem dX7_number_57 : decode cX7_number 57 = .ok (.ifCond .eq 26, 3) := by decide +kernel
theorem dX7_number_60 : decode cX7_number 60 = .ok (.bipush 10, 2) := by decide +kernel
theorem dX7_number_62 : decode cX7_number 62 = .ok (.iload_n 1, 1) := by decide +kernel
theorem dX7_number_63 : decode cX7_number 63 = .ok (.imul, 1) := by decide +kernel
theorem dX7_number_64 : decode cX7_number 64 = .ok (.aload_n 0, 1) := by decide +kernel
theorem dX7_number_65 : decode cX7_number 65 = .ok (.invokevirtual 156, 3) := by decide +kernel
theorem dX7_number_68 : decode cX7_number 68 = .ok (.iadd, 1) := by decide +kernel
theorem dX7_number_69 : decode cX7_number 69 = .ok (.bipush 48, 2) := by decide +kernel
theorem dX7_number_71 : decode cX7_number 71 = .ok (.isub, 1) := by decide +kernel
theorem dX7_number_72 : decode cX7_number 72 = .ok (.istore_n 1, 1) := by decide +kernel
theorem dX7_number_73 : decode cX7_number 73 = .ok (.aload_n 0, 1) := by decide +kernel
theorem dX7_number_74 : decode cX7_number 74 = .ok (.dup, 1) := by decide +kernel
theorem dX7_number_75 : decode cX7_number 75 = .ok (.getfield 147, 3) := by decide +kernel
theorem dX7_number_78 : decode cX7_number 78 = .ok (.iconst 1, 1) := by decide +kernel
theorem dX7_number_79 : decode cX7_number 79 = .ok (.iadd, 1) := by decide +kernel
theorem dX7_number_80 : decode cX7_number 80 = .ok (.putfield 147, 3) := by decide +kernel
theorem dX7_number_83 : decode cX7_number 83 = .ok (.iload_n 1, 1) := by decide +kernel
theorem dX7_number_84 : decode cX7_number 84 = .ok (.ireturn, 1) := by decide +kernel
theorem dX7_readOne_0 : decode cX7_readOne 0 = .ok (.aload_n 0, 1) := by decide +kernel
theorem dX7_readOne_1 : decode cX7_readOne 1 = .ok (.invokevirtual 156, 3) := by decide +kernel
theorem dX7_readOne_4 : decode cX7_readOne 4 = .ok (.istore_n 1, 1) := by decide +kernel
theorem dX7_readOne_5 : decode cX7_readOne 5 = .ok (.bipush 9, 2) := by decide +kernel
theorem dX7_readOne_7 : decode cX7_readOne 7 = .ok (.aload_n 0, 1) := by decide +kernel
theorem dX7_readOne_8 : decode cX7_readOne 8 = .ok (.getfield 159, 3) := by decide +kernel
theorem dX7_readOne_11 : decode cX7_readOne 11 = .ok (.imul, 1) := by decide +kernel
theorem dX7_readOne_12 : decode cX7_readOne 12 = .ok (.istore_n 2, 1) := by decide +kernel
theorem dX7_readOne_13 : decode cX7_readOne 13 = .ok (.aload_n 0, 1) := by decide +kernel
theorem dX7_readOne_14 : decode cX7_readOne 14 = .ok (.getfield 45, 3) := by decide +kernel
theorem dX7_readOne_17 : decode cX7_readOne 17 = .ok (.iload_n 2, 1) := by decide +kernel
theorem dX7_readOne_18 : decode cX7_readOne 18 = .ok (.iload_n 1, 1) := by decide +kernel
theorem dX7_readOne_19 : decode cX7_readOne 19 = .ok (.iastore, 1) := by decide +kernel
theorem dX7_readOne_20 : decode cX7_readOne 20 = .ok (.aload_n 0, 1) := by decide +kernel
theorem dX7_readOne_21 : decode cX7_readOne 21 = .ok (.getfield 45, 3) := by decide +kernel
theorem dX7_readOne_24 : decode cX7_readOne 24 = .ok (.iload_n 2, 1) := by decide +kernel
theorem dX7_readOne_25 : decode cX7_readOne 25 = .ok (.iconst 1, 1) := by decide +kernel
theorem dX7_readOne_26 : decode cX7_readOne 26 = .ok (.iadd, 1) := by decide +kernel
theorem dX7_readOne_27 : decode cX7_readOne 27 = .ok (.aload_n 0, 1) := by decide +kernel
theorem dX7_readOne_28 : decode cX7_readOne 28 = .ok (.getfield 147, 3) := by decide +kernel
theorem dX7_readOne_31 : decode cX7_readOne 31 = .ok (.iastore, 1) := by decide +kernel
theorem dX7_readOne_32 : decode cX7_readOne 32 = .ok (.aload_n 0, 1) := by decide +kernel
theorem dX7_readOne_33 : decode cX7_readOne 33 = .ok (.iload_n 1, 1) := by decide +kernel
theorem dX7_readOne_34 : decode cX7_readOne 34 = .ok (.bipush 115, 2) := by decide +kernel
theorem dX7_readOne_36 : decode cX7_readOne 36 = .ok (.if_icmp .eq 25, 3) := by decide +kernel
theorem dX7_readOne_39 : decode cX7_readOne 39 = .ok (.iload_n 1, 1) := by decide +kernel
theorem dX7_readOne_40 : decode cX7_readOne 40 = .ok (.bipush 102, 2) := by decide +kernel
theorem dX7_readOne_42 : decode cX7_readOne 42 = .ok (.if_icmp .eq 19, 3) := by decide +kernel
theorem dX7_readOne_45 : decode cX7_readOne 45 = .ok (.iload_n 1, 1) := by decide +kernel
theorem dX7_readOne_46 : decode cX7_readOne 46 = .ok (.bipush 108, 2) := by decide +kernel
theorem dX7_readOne_48 : decode cX7_readOne 48 = .ok (.if_icmp .eq 13, 3) := by decide +kernel
theorem dX7_readOne_51 : decode cX7_readOne 51 = .ok (.iload_n 1, 1) := by decide +kernel
theorem dX7_readOne_52 : decode cX7_readOne 52 = .ok (.bipush 101, 2) := by decide +kernel
theorem dX7_readOne_54 : decode cX7_readOne 54 = .ok (.if_icmp .eq 7, 3) := by decide +kernel
theorem dX7_readOne_57 : decode cX7_readOne 57 = .ok (.iconst 1, 1) := by decide +kernel
theorem dX7_readOne_58 : decode cX7_readOne 58 = .ok (.goto 4, 3) := by decide +kernel
theorem dX7_readOne_61 : decode cX7_readOne 61 = .ok (.iconst 0, 1) := by decide +kernel
theorem dX7_readOne_62 : decode cX7_readOne 62 = .ok (.putfield 153, 3) := by decide +kernel
theorem dX7_readOne_65 : decode cX7_readOne 65 = .ok (.aload_n 0, 1) := by decide +kernel
theorem dX7_readOne_66 : decode cX7_readOne 66 = .ok (.dup, 1) := by decide +kernel
theorem dX7_readOne_67 : decode cX7_readOne 67 = .ok (.getfield 147, 3) := by decide +kernel
theorem dX7_readOne_70 : decode cX7_readOne 70 = .ok (.aload_n 0, 1) := by decide +kernel
theorem dX7_readOne_71 : decode cX7_readOne 71 = .ok (.getfield 153, 3) := by decide +kernel
theorem dX7_readOne_74 : decode cX7_readOne 74 = .ok (.ifCond .eq 7, 3) := by decide +kernel
theorem dX7_readOne_77 : decode cX7_readOne 77 = .ok (.iconst 0, 1) := by decide +kernel
theorem dX7_readOne_78 : decode cX7_readOne 78 = .ok (.goto 4, 3) := by decide +kernel
theorem dX7_readOne_81 : decode cX7_readOne 81 = .ok (.iconst 1, 1) := by decide +kernel
theorem dX7_readOne_82 : decode cX7_readOne 82 = .ok (.iadd, 1) := by decide +kernel
theorem dX7_readOne_83 : decode cX7_readOne 83 = .ok (.putfield 147, 3) := by decide +kernel
theorem dX7_readOne_86 : decode cX7_readOne 86 = .ok (.iload_n 1, 1) := by decide +kernel
theorem dX7_readOne_87 : decode cX7_readOne 87 = .ok (.bipush 102, 2) := by decide +kernel
theorem dX7_readOne_89 : decode cX7_readOne 89 = .ok (.if_icmp .ne 8, 3) := by decide +kernel
theorem dX7_readOne_92 : decode cX7_readOne 92 = .ok (.bipush 7, 2) := by decide +kernel
theorem dX7_readOne_94 : decode cX7_readOne 94 = .ok (.goto 14, 3) := by decide +kernel
theorem dX7_readOne_97 : decode cX7_readOne 97 = .ok (.iload_n 1, 1) := by decide +kernel
theorem dX7_readOne_98 : decode cX7_readOne 98 = .ok (.bipush 115, 2) := by decide +kernel
theorem dX7_readOne_100 : decode cX7_readOne 100 = .ok (.if_icmp .ne 7, 3) := by decide +kernel
theorem dX7_readOne_103 : decode cX7_readOne 103 = .ok (.iconst 4, 1) := by decide +kernel
theorem dX7_readOne_104 : decode cX7_readOne 104 = .ok (.goto 4, 3) := by decide +kernel
theorem dX7_readOne_107 : decode cX7_readOne 107 = .ok (.iconst 3, 1) := by decide +kernel
theorem dX7_readOne_108 : decode cX7_readOne 108 = .ok (.istore_n 3, 1) := by decide +kernel
theorem dX7_readOne_109 : decode cX7_readOne 109 = .ok (.iconst 0, 1) := by decide +kernel
theorem dX7_readOne_110 : decode cX7_readOne 110 = .ok (.istore 4, 2) := by decide +kernel
theorem dX7_readOne_112 : decode cX7_readOne 112 = .ok (.iload 4, 2) := by decide +kernel
theorem dX7_readOne_114 : decode cX7_readOne 114 = .ok (.iload_n 3, 1) := by decide +kernel
theorem dX7_readOne_115 : decode cX7_readOne 115 = .ok (.if_icmp .ge 60, 3) := by decide +kernel
theorem dX7_readOne_118 : decode cX7_readOne 118 = .ok (.aload_n 0, 1) := by decide +kernel
theorem dX7_readOne_119 : decode cX7_readOne 119 = .ok (.getfield 153, 3) := by decide +kernel
theorem dX7_readOne_122 : decode cX7_readOne 122 = .ok (.ifCond .ne 53, 3) := by decide +kernel
theorem dX7_readOne_125 : decode cX7_readOne 125 = .ok (.iload 4, 2) := by decide +kernel
theorem dX7_readOne_127 : decode cX7_readOne 127 = .ok (.ifCond .le 27, 3) := by decide +kernel
theorem dX7_readOne_130 : decode cX7_readOne 130 = .ok (.aload_n 0, 1) := by decide +kernel
theorem dX7_readOne_131 : decode cX7_readOne 131 = .ok (.iload 4, 2) := by decide +kernel
theorem dX7_readOne_133 : decode cX7_readOne 133 = .ok (.iload_n 3, 1) := by decide +kernel
theorem dX7_readOne_134 : decode cX7_readOne 134 = .ok (.iconst 1, 1) := by decide +kernel
theorem dX7_readOne_135 : decode cX7_readOne 135 = .ok (.isub, 1) := by decide +kernel
theorem dX7_readOne_136 : decode cX7_readOne 136 = .ok (.if_icmp .ne 13, 3) := by decide +kernel
theorem dX7_readOne_139 : decode cX7_readOne 139 = .ok (.iload_n 3, 1) := by decide +kernel
theorem dX7_readOne_140 : decode cX7_readOne 140 = .ok (.iconst 3, 1) := by decide +kernel
theorem dX7_readOne_141 : decode cX7_readOne 141 = .ok (.if_icmp .le 8, 3) := by decide +kernel
theorem dX7_readOne_144 : decode cX7_readOne 144 = .ok (.bipush 61, 2) := by decide +kernel
theorem dX7_readOne_146 : decode cX7_readOne 146 = .ok (.goto 5, 3) := by decide +kernel
theorem dX7_readOne_149 : decode cX7_readOne 149 = .ok (.bipush 44, 2) := by decide +kernel
theorem dX7_readOne_151 : decode cX7_readOne 151 = .ok (.invokevirtual 162, 3) := by decide +kernel
theorem dX7_readOne_154 : decode cX7_readOne 154 = .ok (.aload_n 0, 1) := by decide +kernel
theorem dX7_readOne_155 : decode cX7_readOne 155 = .ok (.getfield 45, 3) := by decide +kernel
theorem dX7_readOne_158 : decode cX7_readOne 158 = .ok (.iload_n 2, 1) := by decide +kernel
theorem dX7_readOne_159 : decode cX7_readOne 159 = .ok (.iconst 2, 1) := by decide +kernel
theorem dX7_readOne_160 : decode cX7_readOne 160 = .ok (.iadd, 1) := by decide +kernel
theorem dX7_readOne_161 : decode cX7_readOne 161 = .ok (.iload 4, 2) := by decide +kernel
theorem dX7_readOne_163 : decode cX7_readOne 163 = .ok (.iadd, 1) := by decide +kernel
theorem dX7_readOne_164 : decode cX7_readOne 164 = .ok (.aload_n 0, 1) := by decide +kernel
theorem dX7_readOne_165 : decode cX7_readOne 165 = .ok (.invokevirtual 165, 3) := by decide +kernel
theorem dX7_readOne_168 : decode cX7_readOne 168 = .ok (.iastore, 1) := by decide +kernel
theorem dX7_readOne_169 : decode cX7_readOne 169 = .ok (.iinc 4 1, 3) := by decide +kernel
theorem dX7_readOne_172 : decode cX7_readOne 172 = .ok (.goto (-60), 3) := by decide +kernel
theorem dX7_readOne_175 : decode cX7_readOne 175 = .ok (.aload_n 0, 1) := by decide +kernel
theorem dX7_readOne_176 : decode cX7_readOne 176 = .ok (.dup, 1) := by decide +kernel
theorem dX7_readOne_177 : decode cX7_readOne 177 = .ok (.getfield 159, 3) := by decide +kernel
theorem dX7_readOne_180 : decode cX7_readOne 180 = .ok (.iconst 1, 1) := by decide +kernel
theorem dX7_readOne_181 : decode cX7_readOne 181 = .ok (.iadd, 1) := by decide +kernel
theorem dX7_readOne_182 : decode cX7_readOne 182 = .ok (.putfield 159, 3) := by decide +kernel
theorem dX7_readOne_185 : decode cX7_readOne 185 = .ok (.return_, 1) := by decide +kernel
theorem dX7_isGood_0 : decode cX7_isGood 0 = .ok (.aload_n 0, 1) := by decide +kernel
theorem dX7_isGood_1 : decode cX7_isGood 1 = .ok (.getfield 45, 3) := by decide +kernel
theorem dX7_isGood_4 : decode cX7_isGood 4 = .ok (.iload_n 1, 1) := by decide +kernel
theorem dX7_isGood_5 : decode cX7_isGood 5 = .ok (.iconst 2, 1) := by decide +kernel
theorem dX7_isGood_6 : decode cX7_isGood 6 = .ok (.iadd, 1) := by decide +kernel
theorem dX7_isGood_7 : decode cX7_isGood 7 = .ok (.iaload, 1) := by decide +kernel
theorem dX7_isGood_8 : decode cX7_isGood 8 = .ok (.istore_n 2, 1) := by decide +kernel
theorem dX7_isGood_9 : decode cX7_isGood 9 = .ok (.aload_n 0, 1) := by decide +kernel
theorem dX7_isGood_10 : decode cX7_isGood 10 = .ok (.getfield 45, 3) := by decide +kernel
theorem dX7_isGood_13 : decode cX7_isGood 13 = .ok (.iload_n 1, 1) := by decide +kernel
theorem dX7_isGood_14 : decode cX7_isGood 14 = .ok (.iconst 3, 1) := by decide +kernel
theorem dX7_isGood_15 : decode cX7_isGood 15 = .ok (.iadd, 1) := by decide +kernel
theorem dX7_isGood_16 : decode cX7_isGood 16 = .ok (.iaload, 1) := by decide +kernel
theorem dX7_isGood_17 : decode cX7_isGood 17 = .ok (.istore_n 3, 1) := by decide +kernel
theorem dX7_isGood_18 : decode cX7_isGood 18 = .ok (.aload_n 0, 1) := by decide +kernel
theorem dX7_isGood_19 : decode cX7_isGood 19 = .ok (.getfield 45, 3) := by decide +kernel
theorem dX7_isGood_22 : decode cX7_isGood 22 = .ok (.iload_n 1, 1) := by decide +kernel
theorem dX7_isGood_23 : decode cX7_isGood 23 = .ok (.iconst 4, 1) := by decide +kernel
theorem dX7_isGood_24 : decode cX7_isGood 24 = .ok (.iadd, 1) := by decide +kernel
theorem dX7_isGood_25 : decode cX7_isGood 25 = .ok (.iaload, 1) := by decide +kernel
theorem dX7_isGood_26 : decode cX7_isGood 26 = .ok (.istore 4, 2) := by decide +kernel
theorem dX7_isGood_28 : decode cX7_isGood 28 = .ok (.aload_n 0, 1) := by decide +kernel
theorem dX7_isGood_29 : decode cX7_isGood 29 = .ok (.getfield 45, 3) := by decide +kernel
theorem dX7_isGood_32 : decode cX7_isGood 32 = .ok (.iload_n 1, 1) := by decide +kernel
theorem dX7_isGood_33 : decode cX7_isGood 33 = .ok (.iaload, 1) := by decide +kernel
theorem dX7_isGood_34 : decode cX7_isGood 34 = .ok (.lookupswitch 150 #[(102, 56), (115, 26)], 26) := by decide +kernel
theorem dX7_isGood_60 : decode cX7_isGood 60 = .ok (.iload_n 2, 1) := by decide +kernel
theorem dX7_isGood_61 : decode cX7_isGood 61 = .ok (.iload_n 3, 1) := by decide +kernel
theorem dX7_isGood_62 : decode cX7_isGood 62 = .ok (.iload 4, 2) := by decide +kernel
theorem dX7_isGood_64 : decode cX7_isGood 64 = .ok (.invokestatic 71, 3) := by decide +kernel
theorem dX7_isGood_67 : decode cX7_isGood 67 = .ok (.ifCond .eq 21, 3) := by decide +kernel
theorem dX7_isGood_70 : decode cX7_isGood 70 = .ok (.aload_n 0, 1) := by decide +kernel
theorem dX7_isGood_71 : decode cX7_isGood 71 = .ok (.getfield 45, 3) := by decide +kernel
theorem dX7_isGood_74 : decode cX7_isGood 74 = .ok (.iload_n 1, 1) := by decide +kernel
theorem dX7_isGood_75 : decode cX7_isGood 75 = .ok (.iconst 5, 1) := by decide +kernel
theorem dX7_isGood_76 : decode cX7_isGood 76 = .ok (.iadd, 1) := by decide +kernel
theorem dX7_isGood_77 : decode cX7_isGood 77 = .ok (.iaload, 1) := by decide +kernel
theorem dX7_isGood_78 : decode cX7_isGood 78 = .ok (.invokestatic 123, 3) := by decide +kernel
theorem dX7_isGood_81 : decode cX7_isGood 81 = .ok (.ifCond .eq 7, 3) := by decide +kernel
theorem dX7_isGood_84 : decode cX7_isGood 84 = .ok (.iconst 1, 1) := by decide +kernel
theorem dX7_isGood_85 : decode cX7_isGood 85 = .ok (.goto 4, 3) := by decide +kernel
theorem dX7_isGood_88 : decode cX7_isGood 88 = .ok (.iconst 0, 1) := by decide +kernel
theorem dX7_isGood_89 : decode cX7_isGood 89 = .ok (.ireturn, 1) := by decide +kernel
theorem dX7_isGood_90 : decode cX7_isGood 90 = .ok (.aload_n 0, 1) := by decide +kernel
theorem dX7_isGood_91 : decode cX7_isGood 91 = .ok (.getfield 45, 3) := by decide +kernel
theorem dX7_isGood_94 : decode cX7_isGood 94 = .ok (.iload_n 1, 1) := by decide +kernel
theorem dX7_isGood_95 : decode cX7_isGood 95 = .ok (.iconst 5, 1) := by decide +kernel
theorem dX7_isGood_96 : decode cX7_isGood 96 = .ok (.iadd, 1) := by decide +kernel
theorem dX7_isGood_97 : decode cX7_isGood 97 = .ok (.iaload, 1) := by decide +kernel
theorem dX7_isGood_98 : decode cX7_isGood 98 = .ok (.istore 5, 2) := by decide +kernel
theorem dX7_isGood_100 : decode cX7_isGood 100 = .ok (.aload_n 0, 1) := by decide +kernel
theorem dX7_isGood_101 : decode cX7_isGood 101 = .ok (.getfield 45, 3) := by decide +kernel
theorem dX7_isGood_104 : decode cX7_isGood 104 = .ok (.iload_n 1, 1) := by decide +kernel
theorem dX7_isGood_105 : decode cX7_isGood 105 = .ok (.bipush 6, 2) := by decide +kernel
theorem dX7_isGood_107 : decode cX7_isGood 107 = .ok (.iadd, 1) := by decide +kernel
theorem dX7_isGood_108 : decode cX7_isGood 108 = .ok (.iaload, 1) := by decide +kernel
theorem dX7_isGood_109 : decode cX7_isGood 109 = .ok (.istore 6, 2) := by decide +kernel
theorem dX7_isGood_111 : decode cX7_isGood 111 = .ok (.aload_n 0, 1) := by decide +kernel
theorem dX7_isGood_112 : decode cX7_isGood 112 = .ok (.getfield 45, 3) := by decide +kernel
theorem dX7_isGood_115 : decode cX7_isGood 115 = .ok (.iload_n 1, 1) := by decide +kernel
theorem dX7_isGood_116 : decode cX7_isGood 116 = .ok (.bipush 7, 2) := by decide +kernel
theorem dX7_isGood_118 : decode cX7_isGood 118 = .ok (.iadd, 1) := by decide +kernel
theorem dX7_isGood_119 : decode cX7_isGood 119 = .ok (.iaload, 1) := by decide +kernel
theorem dX7_isGood_120 : decode cX7_isGood 120 = .ok (.istore 7, 2) := by decide +kernel
theorem dX7_isGood_122 : decode cX7_isGood 122 = .ok (.iload_n 2, 1) := by decide +kernel
theorem dX7_isGood_123 : decode cX7_isGood 123 = .ok (.iload_n 3, 1) := by decide +kernel
theorem dX7_isGood_124 : decode cX7_isGood 124 = .ok (.iload 4, 2) := by decide +kernel
theorem dX7_isGood_126 : decode cX7_isGood 126 = .ok (.invokestatic 71, 3) := by decide +kernel
theorem dX7_isGood_129 : decode cX7_isGood 129 = .ok (.ifCond .eq 53, 3) := by decide +kernel
theorem dX7_isGood_132 : decode cX7_isGood 132 = .ok (.iload 5, 2) := by decide +kernel
theorem dX7_isGood_134 : decode cX7_isGood 134 = .ok (.iload 6, 2) := by decide +kernel
theorem dX7_isGood_136 : decode cX7_isGood 136 = .ok (.iload 7, 2) := by decide +kernel
theorem dX7_isGood_138 : decode cX7_isGood 138 = .ok (.invokestatic 71, 3) := by decide +kernel
theorem dX7_isGood_141 : decode cX7_isGood 141 = .ok (.ifCond .eq 41, 3) := by decide +kernel
theorem dX7_isGood_144 : decode cX7_isGood 144 = .ok (.iload 5, 2) := by decide +kernel
theorem dX7_isGood_146 : decode cX7_isGood 146 = .ok (.iload_n 2, 1) := by decide +kernel
theorem dX7_isGood_147 : decode cX7_isGood 147 = .ok (.if_icmp .lt 35, 3) := by decide +kernel
theorem dX7_isGood_150 : decode cX7_isGood 150 = .ok (.iload 6, 2) := by decide +kernel
theorem dX7_isGood_152 : decode cX7_isGood 152 = .ok (.iload_n 3, 1) := by decide +kernel
theorem dX7_isGood_153 : decode cX7_isGood 153 = .ok (.if_icmp .lt 29, 3) := by decide +kernel
theorem dX7_isGood_156 : decode cX7_isGood 156 = .ok (.iload 7, 2) := by decide +kernel
theorem dX7_isGood_158 : decode cX7_isGood 158 = .ok (.iload 4, 2) := by decide +kernel
theorem dX7_isGood_160 : decode cX7_isGood 160 = .ok (.if_icmp .lt 22, 3) := by decide +kernel
theorem dX7_isGood_163 : decode cX7_isGood 163 = .ok (.aload_n 0, 1) := by decide +kernel
theorem dX7_isGood_164 : decode cX7_isGood 164 = .ok (.getfield 45, 3) := by decide +kernel
theorem dX7_isGood_167 : decode cX7_isGood 167 = .ok (.iload_n 1, 1) := by decide +kernel
theorem dX7_isGood_168 : decode cX7_isGood 168 = .ok (.bipush 8, 2) := by decide +kernel
theorem dX7_isGood_170 : decode cX7_isGood 170 = .ok (.iadd, 1) := by decide +kernel
theorem dX7_isGood_171 : decode cX7_isGood 171 = .ok (.iaload, 1) := by decide +kernel
theorem dX7_isGood_172 : decode cX7_isGood 172 = .ok (.invokestatic 123, 3) := by decide +kernel
theorem dX7_isGood_175 : decode cX7_isGood 175 = .ok (.ifCond .eq 7, 3) := by decide +kernel
theorem dX7_isGood_178 : decode cX7_isGood 178 = .ok (.iconst 1, 1) := by decide +kernel
theorem dX7_isGood_179 : decode cX7_isGood 179 = .ok (.goto 4, 3) := by decide +kernel
theorem dX7_isGood_182 : decode cX7_isGood 182 = .ok (.iconst 0, 1) := by decide +kernel
theorem dX7_isGood_183 : decode cX7_isGood 183 = .ok (.ireturn, 1) := by decide +kernel
theorem dX7_isGood_184 : decode cX7_isGood 184 = .ok (.iload_n 2, 1) := by decide +kernel
theorem dX7_isGood_185 : decode cX7_isGood 185 = .ok (.invokestatic 123, 3) := by decide +kernel
theorem dX7_isGood_188 : decode cX7_isGood 188 = .ok (.ifCond .eq 42, 3) := by decide +kernel
theorem dX7_isGood_191 : decode cX7_isGood 191 = .ok (.iload_n 3, 1) := by decide +kernel
theorem dX7_isGood_192 : decode cX7_isGood 192 = .ok (.iconst 0, 1) := by decide +kernel
theorem dX7_isGood_193 : decode cX7_isGood 193 = .ok (.aload_n 0, 1) := by decide +kernel
theorem dX7_isGood_194 : decode cX7_isGood 194 = .ok (.getfield 45, 3) := by decide +kernel
theorem dX7_isGood_197 : decode cX7_isGood 197 = .ok (.iload_n 1, 1) := by decide +kernel
theorem dX7_isGood_198 : decode cX7_isGood 198 = .ok (.iaload, 1) := by decide +kernel
theorem dX7_isGood_199 : decode cX7_isGood 199 = .ok (.bipush 108, 2) := by decide +kernel
theorem dX7_isGood_201 : decode cX7_isGood 201 = .ok (.if_icmp .ne 7, 3) := by decide +kernel
theorem dX7_isGood_204 : decode cX7_isGood 204 = .ok (.iconst 3, 1) := by decide +kernel
theorem dX7_isGood_205 : decode cX7_isGood 205 = .ok (.goto 4, 3) := by decide +kernel
theorem dX7_isGood_208 : decode cX7_isGood 208 = .ok (.iconst 2, 1) := by decide +kernel
theorem dX7_isGood_209 : decode cX7_isGood 209 = .ok (.invokestatic 57, 3) := by decide +kernel
theorem dX7_isGood_212 : decode cX7_isGood 212 = .ok (.ifCond .eq 18, 3) := by decide +kernel
theorem dX7_isGood_215 : decode cX7_isGood 215 = .ok (.iload 4, 2) := by decide +kernel
theorem dX7_isGood_217 : decode cX7_isGood 217 = .ok (.iconst 0, 1) := by decide +kernel
theorem dX7_isGood_218 : decode cX7_isGood 218 = .ok (.bipush 15, 2) := by decide +kernel
theorem dX7_isGood_220 : decode cX7_isGood 220 = .ok (.invokestatic 57, 3) := by decide +kernel
theorem dX7_isGood_223 : decode cX7_isGood 223 = .ok (.ifCond .eq 7, 3) := by decide +kernel
theorem dX7_isGood_226 : decode cX7_isGood 226 = .ok (.iconst 1, 1) := by decide +kernel
theorem dX7_isGood_227 : decode cX7_isGood 227 = .ok (.goto 4, 3) := by decide +kernel
theorem dX7_isGood_230 : decode cX7_isGood 230 = .ok (.iconst 0, 1) := by decide +kernel
theorem dX7_isGood_231 : decode cX7_isGood 231 = .ok (.ireturn, 1) := by decide +kernel
theorem dX7_execute_0 : decode cX7_execute 0 = .ok (.aload_n 0, 1) := by decide +kernel
theorem dX7_execute_1 : decode cX7_execute 1 = .ok (.getfield 45, 3) := by decide +kernel
theorem dX7_execute_4 : decode cX7_execute 4 = .ok (.iload_n 1, 1) := by decide +kernel
theorem dX7_execute_5 : decode cX7_execute 5 = .ok (.iconst 2, 1) := by decide +kernel
theorem dX7_execute_6 : decode cX7_execute 6 = .ok (.iadd, 1) := by decide +kernel
theorem dX7_execute_7 : decode cX7_execute 7 = .ok (.iaload, 1) := by decide +kernel
theorem dX7_execute_8 : decode cX7_execute 8 = .ok (.istore_n 2, 1) := by decide +kernel
theorem dX7_execute_9 : decode cX7_execute 9 = .ok (.aload_n 0, 1) := by decide +kernel
theorem dX7_execute_10 : decode cX7_execute 10 = .ok (.getfield 45, 3) := by decide +kernel
theorem dX7_execute_13 : decode cX7_execute 13 = .ok (.iload_n 1, 1) := by decide +kernel
theorem dX7_execute_14 : decode cX7_execute 14 = .ok (.iconst 3, 1) := by decide +kernel
theorem dX7_execute_15 : decode cX7_execute 15 = .ok (.iadd, 1) := by decide +kernel
theorem dX7_execute_16 : decode cX7_execute 16 = .ok (.iaload, 1) := by decide +kernel
theorem dX7_execute_17 : decode cX7_execute 17 = .ok (.istore_n 3, 1) := by decide +kernel
theorem dX7_execute_18 : decode cX7_execute 18 = .ok (.aload_n 0, 1) := by decide +kernel
theorem dX7_execute_19 : decode cX7_execute 19 = .ok (.getfield 45, 3) := by decide +kernel
theorem dX7_execute_22 : decode cX7_execute 22 = .ok (.iload_n 1, 1) := by decide +kernel
theorem dX7_execute_23 : decode cX7_execute 23 = .ok (.iconst 4, 1) := by decide +kernel
theorem dX7_execute_24 : decode cX7_execute 24 = .ok (.iadd, 1) := by decide +kernel
theorem dX7_execute_25 : decode cX7_execute 25 = .ok (.iaload, 1) := by decide +kernel
theorem dX7_execute_26 : decode cX7_execute 26 = .ok (.istore 4, 2) := by decide +kernel
theorem dX7_execute_28 : decode cX7_execute 28 = .ok (.aload_n 0, 1) := by decide +kernel
theorem dX7_execute_29 : decode cX7_execute 29 = .ok (.getfield 45, 3) := by decide +kernel
theorem dX7_execute_32 : decode cX7_execute 32 = .ok (.iload_n 1, 1) := by decide +kernel
theorem dX7_execute_33 : decode cX7_execute 33 = .ok (.iaload, 1) := by decide +kernel
theorem dX7_execute_34 : decode cX7_execute 34 = .ok (.lookupswitch 122 #[(102, 57), (108, 103), (115, 34)], 34) := by decide +kernel
theorem dX7_execute_68 : decode cX7_execute 68 = .ok (.aload_n 0, 1) := by decide +kernel
theorem dX7_execute_69 : decode cX7_execute 69 = .ok (.getfield 9, 3) := by decide +kernel
theorem dX7_execute_72 : decode cX7_execute 72 = .ok (.iload_n 2, 1) := by decide +kernel
theorem dX7_execute_73 : decode cX7_execute 73 = .ok (.iload_n 3, 1) := by decide +kernel
theorem dX7_execute_74 : decode cX7_execute 74 = .ok (.iload 4, 2) := by decide +kernel
theorem dX7_execute_76 : decode cX7_execute 76 = .ok (.invokestatic 74, 3) := by decide +kernel
theorem dX7_execute_79 : decode cX7_execute 79 = .ok (.aload_n 0, 1) := by decide +kernel
theorem dX7_execute_80 : decode cX7_execute 80 = .ok (.getfield 45, 3) := by decide +kernel
theorem dX7_execute_83 : decode cX7_execute 83 = .ok (.iload_n 1, 1) := by decide +kernel
theorem dX7_execute_84 : decode cX7_execute 84 = .ok (.iconst 5, 1) := by decide +kernel
theorem dX7_execute_85 : decode cX7_execute 85 = .ok (.iadd, 1) := by decide +kernel
theorem dX7_execute_86 : decode cX7_execute 86 = .ok (.iaload, 1) := by decide +kernel
theorem dX7_execute_87 : decode cX7_execute 87 = .ok (.iastore, 1) := by decide +kernel
theorem dX7_execute_88 : decode cX7_execute 88 = .ok (.goto 84, 3) := by decide +kernel
theorem dX7_execute_91 : decode cX7_execute 91 = .ok (.aload_n 0, 1) := by decide +kernel
theorem dX7_execute_92 : decode cX7_execute 92 = .ok (.iload_n 2, 1) := by decide +kernel
theorem dX7_execute_93 : decode cX7_execute 93 = .ok (.iload_n 3, 1) := by decide +kernel
theorem dX7_execute_94 : decode cX7_execute 94 = .ok (.iload 4, 2) := by decide +kernel
theorem dX7_execute_96 : decode cX7_execute 96 = .ok (.aload_n 0, 1) := by decide +kernel
theorem dX7_execute_97 : decode cX7_execute 97 = .ok (.getfield 45, 3) := by decide +kernel
theorem dX7_execute_100 : decode cX7_execute 100 = .ok (.iload_n 1, 1) := by decide +kernel
theorem dX7_execute_101 : decode cX7_execute 101 = .ok (.iconst 5, 1) := by decide +kernel
theorem dX7_execute_102 : decode cX7_execute 102 = .ok (.iadd, 1) := by decide +kernel
theorem dX7_execute_103 : decode cX7_execute 103 = .ok (.iaload, 1) := by decide +kernel
theorem dX7_execute_104 : decode cX7_execute 104 = .ok (.aload_n 0, 1) := by decide +kernel
theorem dX7_execute_105 : decode cX7_execute 105 = .ok (.getfield 45, 3) := by decide +kernel
theorem dX7_execute_108 : decode cX7_execute 108 = .ok (.iload_n 1, 1) := by decide +kernel
theorem dX7_execute_109 : decode cX7_execute 109 = .ok (.bipush 6, 2) := by decide +kernel
theorem dX7_execute_111 : decode cX7_execute 111 = .ok (.iadd, 1) := by decide +kernel
theorem dX7_execute_112 : decode cX7_execute 112 = .ok (.iaload, 1) := by decide +kernel
theorem dX7_execute_113 : decode cX7_execute 113 = .ok (.aload_n 0, 1) := by decide +kernel
theorem dX7_execute_114 : decode cX7_execute 114 = .ok (.getfield 45, 3) := by decide +kernel
theorem dX7_execute_117 : decode cX7_execute 117 = .ok (.iload_n 1, 1) := by decide +kernel
theorem dX7_execute_118 : decode cX7_execute 118 = .ok (.bipush 7, 2) := by decide +kernel
theorem dX7_execute_120 : decode cX7_execute 120 = .ok (.iadd, 1) := by decide +kernel
theorem dX7_execute_121 : decode cX7_execute 121 = .ok (.iaload, 1) := by decide +kernel
theorem dX7_execute_122 : decode cX7_execute 122 = .ok (.aload_n 0, 1) := by decide +kernel
theorem dX7_execute_123 : decode cX7_execute 123 = .ok (.getfield 45, 3) := by decide +kernel
theorem dX7_execute_126 : decode cX7_execute 126 = .ok (.iload_n 1, 1) := by decide +kernel
theorem dX7_execute_127 : decode cX7_execute 127 = .ok (.bipush 8, 2) := by decide +kernel
theorem dX7_execute_129 : decode cX7_execute 129 = .ok (.iadd, 1) := by decide +kernel
theorem dX7_execute_130 : decode cX7_execute 130 = .ok (.iaload, 1) := by decide +kernel
theorem dX7_execute_131 : decode cX7_execute 131 = .ok (.invokevirtual 140, 3) := by decide +kernel
theorem dX7_execute_134 : decode cX7_execute 134 = .ok (.goto 38, 3) := by decide +kernel
theorem dX7_execute_137 : decode cX7_execute 137 = .ok (.aload_n 0, 1) := by decide +kernel
theorem dX7_execute_138 : decode cX7_execute 138 = .ok (.getfield 9, 3) := by decide +kernel
theorem dX7_execute_141 : decode cX7_execute 141 = .ok (.sipush 1152, 3) := by decide +kernel
theorem dX7_execute_144 : decode cX7_execute 144 = .ok (.iconst 4, 1) := by decide +kernel
theorem dX7_execute_145 : decode cX7_execute 145 = .ok (.iload_n 2, 1) := by decide +kernel
theorem dX7_execute_146 : decode cX7_execute 146 = .ok (.imul, 1) := by decide +kernel
theorem dX7_execute_147 : decode cX7_execute 147 = .ok (.iadd, 1) := by decide +kernel
theorem dX7_execute_148 : decode cX7_execute 148 = .ok (.iload_n 3, 1) := by decide +kernel
theorem dX7_execute_149 : decode cX7_execute 149 = .ok (.iadd, 1) := by decide +kernel
theorem dX7_execute_150 : decode cX7_execute 150 = .ok (.iload 4, 2) := by decide +kernel
theorem dX7_execute_152 : decode cX7_execute 152 = .ok (.iastore, 1) := by decide +kernel
theorem dX7_execute_153 : decode cX7_execute 153 = .ok (.goto 19, 3) := by decide +kernel
theorem dX7_execute_156 : decode cX7_execute 156 = .ok (.aload_n 0, 1) := by decide +kernel
theorem dX7_execute_157 : decode cX7_execute 157 = .ok (.getfield 9, 3) := by decide +kernel
theorem dX7_execute_160 : decode cX7_execute 160 = .ok (.sipush 1184, 3) := by decide +kernel
theorem dX7_execute_163 : decode cX7_execute 163 = .ok (.iconst 4, 1) := by decide +kernel
theorem dX7_execute_164 : decode cX7_execute 164 = .ok (.iload_n 2, 1) := by decide +kernel
theorem dX7_execute_165 : decode cX7_execute 165 = .ok (.imul, 1) := by decide +kernel
theorem dX7_execute_166 : decode cX7_execute 166 = .ok (.iadd, 1) := by decide +kernel
theorem dX7_execute_167 : decode cX7_execute 167 = .ok (.iload_n 3, 1) := by decide +kernel
theorem dX7_execute_168 : decode cX7_execute 168 = .ok (.iadd, 1) := by decide +kernel
theorem dX7_execute_169 : decode cX7_execute 169 = .ok (.iload 4, 2) := by decide +kernel
theorem dX7_execute_171 : decode cX7_execute 171 = .ok (.iastore, 1) := by decide +kernel
theorem dX7_execute_172 : decode cX7_execute 172 = .ok (.return_, 1) := by decide +kernel
theorem dX7_read_0 : decode cX7_read 0 = .ok (.aload_n 0, 1) := by decide +kernel
theorem dX7_read_1 : decode cX7_read 1 = .ok (.getfield 127, 3) := by decide +kernel
theorem dX7_read_4 : decode cX7_read 4 = .ok (.ifCond .eq 6, 3) := by decide +kernel
theorem dX7_read_7 : decode cX7_read 7 = .ok (.bipush (-5), 2) := by decide +kernel
theorem dX7_read_9 : decode cX7_read 9 = .ok (.ireturn, 1) := by decide +kernel
theorem dX7_read_10 : decode cX7_read 10 = .ok (.aload_n 0, 1) := by decide +kernel
theorem dX7_read_11 : decode cX7_read 11 = .ok (.aload_n 0, 1) := by decide +kernel
theorem dX7_read_12 : decode cX7_read 12 = .ok (.getfield 144, 3) := by decide +kernel
theorem dX7_read_15 : decode cX7_read 15 = .ok (.putfield 150, 3) := by decide +kernel
theorem dX7_read_18 : decode cX7_read 18 = .ok (.aload_n 0, 1) := by decide +kernel
theorem dX7_read_19 : decode cX7_read 19 = .ok (.iconst 0, 1) := by decide +kernel
theorem dX7_read_20 : decode cX7_read 20 = .ok (.putfield 144, 3) := by decide +kernel
theorem dX7_read_23 : decode cX7_read 23 = .ok (.aload_n 0, 1) := by decide +kernel
theorem dX7_read_24 : decode cX7_read 24 = .ok (.iconst 0, 1) := by decide +kernel
theorem dX7_read_25 : decode cX7_read 25 = .ok (.putfield 147, 3) := by decide +kernel
theorem dX7_read_28 : decode cX7_read 28 = .ok (.aload_n 0, 1) := by decide +kernel
theorem dX7_read_29 : decode cX7_read 29 = .ok (.iconst 0, 1) := by decide +kernel
theorem dX7_read_30 : decode cX7_read 30 = .ok (.putfield 159, 3) := by decide +kernel
theorem dX7_read_33 : decode cX7_read 33 = .ok (.aload_n 0, 1) := by decide +kernel
theorem dX7_read_34 : decode cX7_read 34 = .ok (.bipush (-4), 2) := by decide +kernel
theorem dX7_read_36 : decode cX7_read 36 = .ok (.putfield 42, 3) := by decide +kernel
theorem dX7_read_39 : decode cX7_read 39 = .ok (.iconst 1, 1) := by decide +kernel
theorem dX7_read_40 : decode cX7_read 40 = .ok (.istore_n 1, 1) := by decide +kernel
theorem dX7_read_41 : decode cX7_read 41 = .ok (.iload_n 1, 1) := by decide +kernel
theorem dX7_read_42 : decode cX7_read 42 = .ok (.ifCond .eq 50, 3) := by decide +kernel
theorem dX7_read_45 : decode cX7_read 45 = .ok (.aload_n 0, 1) := by decide +kernel
theorem dX7_read_46 : decode cX7_read 46 = .ok (.invokevirtual 168, 3) := by decide +kernel
theorem dX7_read_49 : decode cX7_read 49 = .ok (.aload_n 0, 1) := by decide +kernel
theorem dX7_read_50 : decode cX7_read 50 = .ok (.getfield 153, 3) := by decide +kernel
theorem dX7_read_53 : decode cX7_read 53 = .ok (.ifCond .ne 16, 3) := by decide +kernel
theorem dX7_read_56 : decode cX7_read 56 = .ok (.aload_n 0, 1) := by decide +kernel
theorem dX7_read_57 : decode cX7_read 57 = .ok (.invokevirtual 156, 3) := by decide +kernel
theorem dX7_read_60 : decode cX7_read 60 = .ok (.bipush 59, 2) := by decide +kernel
theorem dX7_read_62 : decode cX7_read 62 = .ok (.if_icmp .ne 7, 3) := by decide +kernel
theorem dX7_read_65 : decode cX7_read 65 = .ok (.iconst 1, 1) := by decide +kernel
theorem dX7_read_66 : decode cX7_read 66 = .ok (.goto 4, 3) := by decide +kernel
theorem dX7_read_69 : decode cX7_read 69 = .ok (.iconst 0, 1) := by decide +kernel
theorem dX7_read_70 : decode cX7_read 70 = .ok (.istore_n 1, 1) := by decide +kernel
theorem dX7_read_71 : decode cX7_read 71 = .ok (.aload_n 0, 1) := by decide +kernel
theorem dX7_read_72 : decode cX7_read 72 = .ok (.dup, 1) := by decide +kernel
theorem dX7_read_73 : decode cX7_read 73 = .ok (.getfield 147, 3) := by decide +kernel
theorem dX7_read_76 : decode cX7_read 76 = .ok (.iload_n 1, 1) := by decide +kernel
theorem dX7_read_77 : decode cX7_read 77 = .ok (.ifCond .eq 7, 3) := by decide +kernel
theorem dX7_read_80 : decode cX7_read 80 = .ok (.iconst 1, 1) := by decide +kernel
theorem dX7_read_81 : decode cX7_read 81 = .ok (.goto 4, 3) := by decide +kernel
theorem dX7_read_84 : decode cX7_read 84 = .ok (.iconst 0, 1) := by decide +kernel
theorem dX7_read_85 : decode cX7_read 85 = .ok (.iadd, 1) := by decide +kernel
theorem dX7_read_86 : decode cX7_read 86 = .ok (.putfield 147, 3) := by decide +kernel
theorem dX7_read_89 : decode cX7_read 89 = .ok (.goto (-48), 3) := by decide +kernel
theorem dX7_read_92 : decode cX7_read 92 = .ok (.aload_n 0, 1) := by decide +kernel
theorem dX7_read_93 : decode cX7_read 93 = .ok (.getfield 153, 3) := by decide +kernel
theorem dX7_read_96 : decode cX7_read 96 = .ok (.ifCond .ne 14, 3) := by decide +kernel
theorem dX7_read_99 : decode cX7_read 99 = .ok (.aload_n 0, 1) := by decide +kernel
theorem dX7_read_100 : decode cX7_read 100 = .ok (.getfield 147, 3) := by decide +kernel
theorem dX7_read_103 : decode cX7_read 103 = .ok (.aload_n 0, 1) := by decide +kernel
theorem dX7_read_104 : decode cX7_read 104 = .ok (.getfield 150, 3) := by decide +kernel
theorem dX7_read_107 : decode cX7_read 107 = .ok (.if_icmp .ge 14, 3) := by decide +kernel
theorem dX7_read_110 : decode cX7_read 110 = .ok (.aload_n 0, 1) := by decide +kernel
theorem dX7_read_111 : decode cX7_read 111 = .ok (.aload_n 0, 1) := by decide +kernel
theorem dX7_read_112 : decode cX7_read 112 = .ok (.getfield 147, 3) := by decide +kernel
theorem dX7_read_115 : decode cX7_read 115 = .ok (.putfield 42, 3) := by decide +kernel
theorem dX7_read_118 : decode cX7_read 118 = .ok (.bipush (-2), 2) := by decide +kernel
theorem dX7_read_120 : decode cX7_read 120 = .ok (.ireturn, 1) := by decide +kernel
theorem dX7_read_121 : decode cX7_read 121 = .ok (.iconst 0, 1) := by decide +kernel
theorem dX7_read_122 : decode cX7_read 122 = .ok (.istore_n 2, 1) := by decide +kernel
theorem dX7_read_123 : decode cX7_read 123 = .ok (.iload_n 2, 1) := by decide +kernel
theorem dX7_read_124 : decode cX7_read 124 = .ok (.aload_n 0, 1) := by decide +kernel
theorem dX7_read_125 : decode cX7_read 125 = .ok (.getfield 159, 3) := by decide +kernel
theorem dX7_read_128 : decode cX7_read 128 = .ok (.if_icmp .ge 38, 3) := by decide +kernel
theorem dX7_read_131 : decode cX7_read 131 = .ok (.aload_n 0, 1) := by decide +kernel
theorem dX7_read_132 : decode cX7_read 132 = .ok (.bipush 9, 2) := by decide +kernel
theorem dX7_read_134 : decode cX7_read 134 = .ok (.iload_n 2, 1) := by decide +kernel
theorem dX7_read_135 : decode cX7_read 135 = .ok (.imul, 1) := by decide +kernel
theorem dX7_read_136 : decode cX7_read 136 = .ok (.invokevirtual 171, 3) := by decide +kernel
theorem dX7_read_139 : decode cX7_read 139 = .ok (.ifCond .ne 21, 3) := by decide +kernel
theorem dX7_read_142 : decode cX7_read 142 = .ok (.aload_n 0, 1) := by decide +kernel
theorem dX7_read_143 : decode cX7_read 143 = .ok (.aload_n 0, 1) := by decide +kernel
theorem dX7_read_144 : decode cX7_read 144 = .ok (.getfield 45, 3) := by decide +kernel
theorem dX7_read_147 : decode cX7_read 147 = .ok (.bipush 9, 2) := by decide +kernel
theorem dX7_read_149 : decode cX7_read 149 = .ok (.iload_n 2, 1) := by decide +kernel
theorem dX7_read_150 : decode cX7_read 150 = .ok (.imul, 1) := by decide +kernel
theorem dX7_read_151 : decode cX7_read 151 = .ok (.iconst 1, 1) := by decide +kernel
theorem dX7_read_152 : decode cX7_read 152 = .ok (.iadd, 1) := by decide +kernel
theorem dX7_read_153 : decode cX7_read 153 = .ok (.iaload, 1) := by decide +kernel
theorem dX7_read_154 : decode cX7_read 154 = .ok (.putfield 42, 3) := by decide +kernel
theorem dX7_read_157 : decode cX7_read 157 = .ok (.bipush (-2), 2) := by decide +kernel
theorem dX7_read_159 : decode cX7_read 159 = .ok (.ireturn, 1) := by decide +kernel
theorem dX7_read_160 : decode cX7_read 160 = .ok (.iinc 2 1, 3) := by decide +kernel
theorem dX7_read_163 : decode cX7_read 163 = .ok (.goto (-40), 3) := by decide +kernel
theorem dX7_read_166 : decode cX7_read 166 = .ok (.aload_n 0, 1) := by decide +kernel
theorem dX7_read_167 : decode cX7_read 167 = .ok (.invokevirtual 134, 3) := by decide +kernel
theorem dX7_read_170 : decode cX7_read 170 = .ok (.iconst 0, 1) := by decide +kernel
theorem dX7_read_171 : decode cX7_read 171 = .ok (.istore_n 2, 1) := by decide +kernel
theorem dX7_read_172 : decode cX7_read 172 = .ok (.iload_n 2, 1) := by decide +kernel
theorem dX7_read_173 : decode cX7_read 173 = .ok (.aload_n 0, 1) := by decide +kernel
theorem dX7_read_174 : decode cX7_read 174 = .ok (.getfield 159, 3) := by decide +kernel
theorem dX7_read_177 : decode cX7_read 177 = .ok (.if_icmp .ge 17, 3) := by decide +kernel
theorem dX7_read_180 : decode cX7_read 180 = .ok (.aload_n 0, 1) := by decide +kernel
theorem dX7_read_181 : decode cX7_read 181 = .ok (.bipush 9, 2) := by decide +kernel
theorem dX7_read_183 : decode cX7_read 183 = .ok (.iload_n 2, 1) := by decide +kernel
theorem dX7_read_184 : decode cX7_read 184 = .ok (.imul, 1) := by decide +kernel
theorem dX7_read_185 : decode cX7_read 185 = .ok (.invokevirtual 174, 3) := by decide +kernel
theorem dX7_read_188 : decode cX7_read 188 = .ok (.iinc 2 1, 3) := by decide +kernel
theorem dX7_read_191 : decode cX7_read 191 = .ok (.goto (-19), 3) := by decide +kernel
theorem dX7_read_194 : decode cX7_read 194 = .ok (.aload_n 0, 1) := by decide +kernel
theorem dX7_read_195 : decode cX7_read 195 = .ok (.invokevirtual 137, 3) := by decide +kernel
theorem dX7_read_198 : decode cX7_read 198 = .ok (.pop, 1) := by decide +kernel
theorem dX7_read_199 : decode cX7_read 199 = .ok (.aload_n 0, 1) := by decide +kernel
theorem dX7_read_200 : decode cX7_read 200 = .ok (.getfield 159, 3) := by decide +kernel
theorem dX7_read_203 : decode cX7_read 203 = .ok (.ireturn, 1) := by decide +kernel
theorem dX7_faultPosition_0 : decode cX7_faultPosition 0 = .ok (.aload_n 0, 1) := by decide +kernel
theorem dX7_faultPosition_1 : decode cX7_faultPosition 1 = .ok (.getfield 42, 3) := by decide +kernel
theorem dX7_faultPosition_4 : decode cX7_faultPosition 4 = .ok (.ireturn, 1) := by decide +kernel
theorem dX7_undo_0 : decode cX7_undo 0 = .ok (.aload_n 0, 1) := by decide +kernel
theorem dX7_undo_1 : decode cX7_undo 1 = .ok (.getfield 127, 3) := by decide +kernel
theorem dX7_undo_4 : decode cX7_undo 4 = .ok (.ifCond .eq 6, 3) := by decide +kernel
theorem dX7_undo_7 : decode cX7_undo 7 = .ok (.bipush (-5), 2) := by decide +kernel
theorem dX7_undo_9 : decode cX7_undo 9 = .ok (.ireturn, 1) := by decide +kernel
theorem dX7_undo_10 : decode cX7_undo 10 = .ok (.aload_n 0, 1) := by decide +kernel
theorem dX7_undo_11 : decode cX7_undo 11 = .ok (.getfield 113, 3) := by decide +kernel
theorem dX7_undo_14 : decode cX7_undo 14 = .ok (.ifCond .ne 6, 3) := by decide +kernel
theorem dX7_undo_17 : decode cX7_undo 17 = .ok (.bipush (-4), 2) := by decide +kernel
theorem dX7_undo_19 : decode cX7_undo 19 = .ok (.ireturn, 1) := by decide +kernel
theorem dX7_undo_20 : decode cX7_undo 20 = .ok (.aload_n 0, 1) := by decide +kernel
theorem dX7_undo_21 : decode cX7_undo 21 = .ok (.dup, 1) := by decide +kernel
theorem dX7_undo_22 : decode cX7_undo 22 = .ok (.getfield 113, 3) := by decide +kernel
theorem dX7_undo_25 : decode cX7_undo 25 = .ok (.iconst 1, 1) := by decide +kernel
theorem dX7_undo_26 : decode cX7_undo 26 = .ok (.isub, 1) := by decide +kernel
theorem dX7_undo_27 : decode cX7_undo 27 = .ok (.putfield 113, 3) := by decide +kernel
theorem dX7_undo_30 : decode cX7_undo 30 = .ok (.iconst 0, 1) := by decide +kernel
theorem dX7_undo_31 : decode cX7_undo 31 = .ok (.istore_n 1, 1) := by decide +kernel
theorem dX7_undo_32 : decode cX7_undo 32 = .ok (.iload_n 1, 1) := by decide +kernel
theorem dX7_undo_33 : decode cX7_undo 33 = .ok (.sipush 1216, 3) := by decide +kernel
theorem dX7_undo_36 : decode cX7_undo 36 = .ok (.if_icmp .ge 30, 3) := by decide +kernel
theorem dX7_undo_39 : decode cX7_undo 39 = .ok (.aload_n 0, 1) := by decide +kernel
theorem dX7_undo_40 : decode cX7_undo 40 = .ok (.getfield 9, 3) := by decide +kernel
theorem dX7_undo_43 : decode cX7_undo 43 = .ok (.iload_n 1, 1) := by decide +kernel
theorem dX7_undo_44 : decode cX7_undo 44 = .ok (.aload_n 0, 1) := by decide +kernel
theorem dX7_undo_45 : decode cX7_undo 45 = .ok (.getfield 16, 3) := by decide +kernel
theorem dX7_undo_48 : decode cX7_undo 48 = .ok (.sipush 1216, 3) := by decide +kernel
theorem dX7_undo_51 : decode cX7_undo 51 = .ok (.aload_n 0, 1) := by decide +kernel
theorem dX7_undo_52 : decode cX7_undo 52 = .ok (.getfield 113, 3) := by decide +kernel
theorem dX7_undo_55 : decode cX7_undo 55 = .ok (.imul, 1) := by decide +kernel
theorem dX7_undo_56 : decode cX7_undo 56 = .ok (.iload_n 1, 1) := by decide +kernel
theorem dX7_undo_57 : decode cX7_undo 57 = .ok (.iadd, 1) := by decide +kernel
theorem dX7_undo_58 : decode cX7_undo 58 = .ok (.iaload, 1) := by decide +kernel
theorem dX7_undo_59 : decode cX7_undo 59 = .ok (.iastore, 1) := by decide +kernel
theorem dX7_undo_60 : decode cX7_undo 60 = .ok (.iinc 1 1, 3) := by decide +kernel
theorem dX7_undo_63 : decode cX7_undo 63 = .ok (.goto (-31), 3) := by decide +kernel
theorem dX7_undo_66 : decode cX7_undo 66 = .ok (.aload_n 0, 1) := by decide +kernel
theorem dX7_undo_67 : decode cX7_undo 67 = .ok (.invokevirtual 137, 3) := by decide +kernel
theorem dX7_undo_70 : decode cX7_undo 70 = .ok (.pop, 1) := by decide +kernel
theorem dX7_undo_71 : decode cX7_undo 71 = .ok (.aload_n 0, 1) := by decide +kernel
theorem dX7_undo_72 : decode cX7_undo 72 = .ok (.getfield 113, 3) := by decide +kernel
theorem dX7_undo_75 : decode cX7_undo 75 = .ok (.ireturn, 1) := by decide +kernel
theorem dX7_type_0 : decode cX7_type 0 = .ok (.iload_n 1, 1) := by decide +kernel
theorem dX7_type_1 : decode cX7_type 1 = .ok (.iload_n 2, 1) := by decide +kernel
theorem dX7_type_2 : decode cX7_type 2 = .ok (.iload_n 3, 1) := by decide +kernel
theorem dX7_type_3 : decode cX7_type 3 = .ok (.invokestatic 71, 3) := by decide +kernel
theorem dX7_type_6 : decode cX7_type 6 = .ok (.ifCond .eq 17, 3) := by decide +kernel
theorem dX7_type_9 : decode cX7_type 9 = .ok (.aload_n 0, 1) := by decide +kernel
theorem dX7_type_10 : decode cX7_type 10 = .ok (.getfield 9, 3) := by decide +kernel
theorem dX7_type_13 : decode cX7_type 13 = .ok (.iload_n 1, 1) := by decide +kernel
theorem dX7_type_14 : decode cX7_type 14 = .ok (.iload_n 2, 1) := by decide +kernel
theorem dX7_type_15 : decode cX7_type 15 = .ok (.iload_n 3, 1) := by decide +kernel
theorem dX7_type_16 : decode cX7_type 16 = .ok (.invokestatic 74, 3) := by decide +kernel
theorem dX7_type_19 : decode cX7_type 19 = .ok (.iaload, 1) := by decide +kernel
theorem dX7_type_20 : decode cX7_type 20 = .ok (.goto 4, 3) := by decide +kernel
theorem dX7_type_23 : decode cX7_type 23 = .ok (.iconst (-1), 1) := by decide +kernel
theorem dX7_type_24 : decode cX7_type 24 = .ok (.ireturn, 1) := by decide +kernel
theorem dX7_loss_0 : decode cX7_loss 0 = .ok (.iload_n 1, 1) := by decide +kernel
theorem dX7_loss_1 : decode cX7_loss 1 = .ok (.invokestatic 123, 3) := by decide +kernel
theorem dX7_loss_4 : decode cX7_loss 4 = .ok (.ifCond .eq 29, 3) := by decide +kernel
theorem dX7_loss_7 : decode cX7_loss 7 = .ok (.iload_n 2, 1) := by decide +kernel
theorem dX7_loss_8 : decode cX7_loss 8 = .ok (.iconst 0, 1) := by decide +kernel
theorem dX7_loss_9 : decode cX7_loss 9 = .ok (.iconst 3, 1) := by decide +kernel
theorem dX7_loss_10 : decode cX7_loss 10 = .ok (.invokestatic 57, 3) := by decide +kernel
theorem dX7_loss_13 : decode cX7_loss 13 = .ok (.ifCond .eq 20, 3) := by decide +kernel
theorem dX7_loss_16 : decode cX7_loss 16 = .ok (.aload_n 0, 1) := by decide +kernel
theorem dX7_loss_17 : decode cX7_loss 17 = .ok (.getfield 9, 3) := by decide +kernel
theorem dX7_loss_20 : decode cX7_loss 20 = .ok (.sipush 1152, 3) := by decide +kernel
theorem dX7_loss_23 : decode cX7_loss 23 = .ok (.iconst 4, 1) := by decide +kernel
theorem dX7_loss_24 : decode cX7_loss 24 = .ok (.iload_n 1, 1) := by decide +kernel
theorem dX7_loss_25 : decode cX7_loss 25 = .ok (.imul, 1) := by decide +kernel
theorem dX7_loss_26 : decode cX7_loss 26 = .ok (.iadd, 1) := by decide +kernel
theorem dX7_loss_27 : decode cX7_loss 27 = .ok (.iload_n 2, 1) := by decide +kernel
theorem dX7_loss_28 : decode cX7_loss 28 = .ok (.iadd, 1) := by decide +kernel
theorem dX7_loss_29 : decode cX7_loss 29 = .ok (.iaload, 1) := by decide +kernel
theorem dX7_loss_30 : decode cX7_loss 30 = .ok (.goto 4, 3) := by decide +kernel
theorem dX7_loss_33 : decode cX7_loss 33 = .ok (.iconst (-1), 1) := by decide +kernel
theorem dX7_loss_34 : decode cX7_loss 34 = .ok (.ireturn, 1) := by decide +kernel
theorem dX7_emission_0 : decode cX7_emission 0 = .ok (.iload_n 1, 1) := by decide +kernel
theorem dX7_emission_1 : decode cX7_emission 1 = .ok (.invokestatic 123, 3) := by decide +kernel
theorem dX7_emission_4 : decode cX7_emission 4 = .ok (.ifCond .eq 29, 3) := by decide +kernel
theorem dX7_emission_7 : decode cX7_emission 7 = .ok (.iload_n 2, 1) := by decide +kernel
theorem dX7_emission_8 : decode cX7_emission 8 = .ok (.iconst 0, 1) := by decide +kernel
theorem dX7_emission_9 : decode cX7_emission 9 = .ok (.iconst 2, 1) := by decide +kernel
theorem dX7_emission_10 : decode cX7_emission 10 = .ok (.invokestatic 57, 3) := by decide +kernel
theorem dX7_emission_13 : decode cX7_emission 13 = .ok (.ifCond .eq 20, 3) := by decide +kernel
theorem dX7_emission_16 : decode cX7_emission 16 = .ok (.aload_n 0, 1) := by decide +kernel
theorem dX7_emission_17 : decode cX7_emission 17 = .ok (.getfield 9, 3) := by decide +kernel
theorem dX7_emission_20 : decode cX7_emission 20 = .ok (.sipush 1184, 3) := by decide +kernel
theorem dX7_emission_23 : decode cX7_emission 23 = .ok (.iconst 4, 1) := by decide +kernel
theorem dX7_emission_24 : decode cX7_emission 24 = .ok (.iload_n 1, 1) := by decide +kernel
theorem dX7_emission_25 : decode cX7_emission 25 = .ok (.imul, 1) := by decide +kernel
theorem dX7_emission_26 : decode cX7_emission 26 = .ok (.iadd, 1) := by decide +kernel
theorem dX7_emission_27 : decode cX7_emission 27 = .ok (.iload_n 2, 1) := by decide +kernel
theorem dX7_emission_28 : decode cX7_emission 28 = .ok (.iadd, 1) := by decide +kernel
theorem dX7_emission_29 : decode cX7_emission 29 = .ok (.iaload, 1) := by decide +kernel
theorem dX7_emission_30 : decode cX7_emission 30 = .ok (.goto 4, 3) := by decide +kernel
theorem dX7_emission_33 : decode cX7_emission 33 = .ok (.iconst (-1), 1) := by decide +kernel
theorem dX7_emission_34 : decode cX7_emission 34 = .ok (.ireturn, 1) := by decide +kernel
theorem dX7_lightOf_0 : decode cX7_lightOf 0 = .ok (.aload_n 0, 1) := by decide +kernel
theorem dX7_lightOf_1 : decode cX7_lightOf 1 = .ok (.getfield 19, 3) := by decide +kernel
theorem dX7_lightOf_4 : decode cX7_lightOf 4 = .ok (.sipush 1152, 3) := by decide +kernel
theorem dX7_lightOf_7 : decode cX7_lightOf 7 = .ok (.iload_n 2, 1) := by decide +kernel
theorem dX7_lightOf_8 : decode cX7_lightOf 8 = .ok (.imul, 1) := by decide +kernel
theorem dX7_lightOf_9 : decode cX7_lightOf 9 = .ok (.iload_n 1, 1) := by decide +kernel
theorem dX7_lightOf_10 : decode cX7_lightOf 10 = .ok (.iadd, 1) := by decide +kernel
theorem dX7_lightOf_11 : decode cX7_lightOf 11 = .ok (.iaload, 1) := by decide +kernel
theorem dX7_lightOf_12 : decode cX7_lightOf 12 = .ok (.ireturn, 1) := by decide +kernel
theorem dX7_light_0 : decode cX7_light 0 = .ok (.iload_n 1, 1) := by decide +kernel
theorem dX7_light_1 : decode cX7_light 1 = .ok (.iload_n 2, 1) := by decide +kernel
theorem dX7_light_2 : decode cX7_light 2 = .ok (.iload_n 3, 1) := by decide +kernel
theorem dX7_light_3 : decode cX7_light 3 = .ok (.invokestatic 71, 3) := by decide +kernel
theorem dX7_light_6 : decode cX7_light 6 = .ok (.ifCond .eq 28, 3) := by decide +kernel
theorem dX7_light_9 : decode cX7_light 9 = .ok (.iload 4, 2) := by decide +kernel
theorem dX7_light_11 : decode cX7_light 11 = .ok (.iconst 0, 1) := by decide +kernel
theorem dX7_light_12 : decode cX7_light 12 = .ok (.iconst 3, 1) := by decide +kernel
theorem dX7_light_13 : decode cX7_light 13 = .ok (.invokestatic 57, 3) := by decide +kernel
theorem dX7_light_16 : decode cX7_light 16 = .ok (.ifCond .eq 18, 3) := by decide +kernel
theorem dX7_light_19 : decode cX7_light 19 = .ok (.aload_n 0, 1) := by decide +kernel
theorem dX7_light_20 : decode cX7_light 20 = .ok (.iload_n 1, 1) := by decide +kernel
theorem dX7_light_21 : decode cX7_light 21 = .ok (.iload_n 2, 1) := by decide +kernel
theorem dX7_light_22 : decode cX7_light 22 = .ok (.iload_n 3, 1) := by decide +kernel
theorem dX7_light_23 : decode cX7_light 23 = .ok (.invokestatic 74, 3) := by decide +kernel
theorem dX7_light_26 : decode cX7_light 26 = .ok (.iload 4, 2) := by decide +kernel
theorem dX7_light_28 : decode cX7_light 28 = .ok (.invokevirtual 177, 3) := by decide +kernel
theorem dX7_light_31 : decode cX7_light 31 = .ok (.goto 4, 3) := by decide +kernel
theorem dX7_light_34 : decode cX7_light 34 = .ok (.iconst (-1), 1) := by decide +kernel
theorem dX7_light_35 : decode cX7_light 35 = .ok (.ireturn, 1) := by decide +kernel
theorem dX7_lightsOf_0 : decode cX7_lightsOf 0 = .ok (.aload_n 0, 1) := by decide +kernel
theorem dX7_lightsOf_1 : decode cX7_lightsOf 1 = .ok (.iload_n 1, 1) := by decide +kernel
theorem dX7_lightsOf_2 : decode cX7_lightsOf 2 = .ok (.iconst 0, 1) := by decide +kernel
theorem dX7_lightsOf_3 : decode cX7_lightsOf 3 = .ok (.invokevirtual 177, 3) := by decide +kernel
theorem dX7_lightsOf_6 : decode cX7_lightsOf 6 = .ok (.bipush 16, 2) := by decide +kernel
theorem dX7_lightsOf_8 : decode cX7_lightsOf 8 = .ok (.aload_n 0, 1) := by decide +kernel
theorem dX7_lightsOf_9 : decode cX7_lightsOf 9 = .ok (.iload_n 1, 1) := by decide +kernel
theorem dX7_lightsOf_10 : decode cX7_lightsOf 10 = .ok (.iconst 1, 1) := by decide +kernel
theorem dX7_lightsOf_11 : decode cX7_lightsOf 11 = .ok (.invokevirtual 177, 3) := by decide +kernel
theorem dX7_lightsOf_14 : decode cX7_lightsOf 14 = .ok (.imul, 1) := by decide +kernel
theorem dX7_lightsOf_15 : decode cX7_lightsOf 15 = .ok (.iadd, 1) := by decide +kernel
theorem dX7_lightsOf_16 : decode cX7_lightsOf 16 = .ok (.sipush 256, 3) := by decide +kernel
theorem dX7_lightsOf_19 : decode cX7_lightsOf 19 = .ok (.aload_n 0, 1) := by decide +kernel
theorem dX7_lightsOf_20 : decode cX7_lightsOf 20 = .ok (.iload_n 1, 1) := by decide +kernel
theorem dX7_lightsOf_21 : decode cX7_lightsOf 21 = .ok (.iconst 2, 1) := by decide +kernel
theorem dX7_lightsOf_22 : decode cX7_lightsOf 22 = .ok (.invokevirtual 177, 3) := by decide +kernel
theorem dX7_lightsOf_25 : decode cX7_lightsOf 25 = .ok (.imul, 1) := by decide +kernel
theorem dX7_lightsOf_26 : decode cX7_lightsOf 26 = .ok (.iadd, 1) := by decide +kernel
theorem dX7_lightsOf_27 : decode cX7_lightsOf 27 = .ok (.sipush 4096, 3) := by decide +kernel
theorem dX7_lightsOf_30 : decode cX7_lightsOf 30 = .ok (.aload_n 0, 1) := by decide +kernel
theorem dX7_lightsOf_31 : decode cX7_lightsOf 31 = .ok (.iload_n 1, 1) := by decide +kernel
theorem dX7_lightsOf_32 : decode cX7_lightsOf 32 = .ok (.iconst 3, 1) := by decide +kernel
theorem dX7_lightsOf_33 : decode cX7_lightsOf 33 = .ok (.invokevirtual 177, 3) := by decide +kernel
theorem dX7_lightsOf_36 : decode cX7_lightsOf 36 = .ok (.imul, 1) := by decide +kernel
theorem dX7_lightsOf_37 : decode cX7_lightsOf 37 = .ok (.iadd, 1) := by decide +kernel
theorem dX7_lightsOf_38 : decode cX7_lightsOf 38 = .ok (.ireturn, 1) := by decide +kernel
theorem dX7_lights_0 : decode cX7_lights 0 = .ok (.iload_n 1, 1) := by decide +kernel
theorem dX7_lights_1 : decode cX7_lights 1 = .ok (.iload_n 2, 1) := by decide +kernel
theorem dX7_lights_2 : decode cX7_lights 2 = .ok (.iload_n 3, 1) := by decide +kernel
theorem dX7_lights_3 : decode cX7_lights 3 = .ok (.invokestatic 71, 3) := by decide +kernel
theorem dX7_lights_6 : decode cX7_lights 6 = .ok (.ifCond .eq 16, 3) := by decide +kernel
theorem dX7_lights_9 : decode cX7_lights 9 = .ok (.aload_n 0, 1) := by decide +kernel
theorem dX7_lights_10 : decode cX7_lights 10 = .ok (.iload_n 1, 1) := by decide +kernel
theorem dX7_lights_11 : decode cX7_lights 11 = .ok (.iload_n 2, 1) := by decide +kernel
theorem dX7_lights_12 : decode cX7_lights 12 = .ok (.iload_n 3, 1) := by decide +kernel
theorem dX7_lights_13 : decode cX7_lights 13 = .ok (.invokestatic 74, 3) := by decide +kernel
theorem dX7_lights_16 : decode cX7_lights 16 = .ok (.invokevirtual 180, 3) := by decide +kernel
theorem dX7_lights_19 : decode cX7_lights 19 = .ok (.goto 4, 3) := by decide +kernel
theorem dX7_lights_22 : decode cX7_lights 22 = .ok (.iconst (-1), 1) := by decide +kernel
theorem dX7_lights_23 : decode cX7_lights 23 = .ok (.ireturn, 1) := by decide +kernel
theorem dX7_originOf_0 : decode cX7_originOf 0 = .ok (.aload_n 0, 1) := by decide +kernel
theorem dX7_originOf_1 : decode cX7_originOf 1 = .ok (.iload_n 1, 1) := by decide +kernel
theorem dX7_originOf_2 : decode cX7_originOf 2 = .ok (.iload_n 2, 1) := by decide +kernel
theorem dX7_originOf_3 : decode cX7_originOf 3 = .ok (.invokevirtual 177, 3) := by decide +kernel
theorem dX7_originOf_6 : decode cX7_originOf 6 = .ok (.istore_n 3, 1) := by decide +kernel
theorem dX7_originOf_7 : decode cX7_originOf 7 = .ok (.iload_n 2, 1) := by decide +kernel
theorem dX7_originOf_8 : decode cX7_originOf 8 = .ok (.iconst 3, 1) := by decide +kernel
theorem dX7_originOf_9 : decode cX7_originOf 9 = .ok (.if_icmp .ge 16, 3) := by decide +kernel
theorem dX7_originOf_12 : decode cX7_originOf 12 = .ok (.iload_n 3, 1) := by decide +kernel
theorem dX7_originOf_13 : decode cX7_originOf 13 = .ok (.aload_n 0, 1) := by decide +kernel
theorem dX7_originOf_14 : decode cX7_originOf 14 = .ok (.iload_n 1, 1) := by decide +kernel
theorem dX7_originOf_15 : decode cX7_originOf 15 = .ok (.iload_n 2, 1) := by decide +kernel
theorem dX7_originOf_16 : decode cX7_originOf 16 = .ok (.invokevirtual 103, 3) := by decide +kernel
theorem dX7_originOf_19 : decode cX7_originOf 19 = .ok (.if_icmp .ne 6, 3) := by decide +kernel
theorem dX7_originOf_22 : decode cX7_originOf 22 = .ok (.bipush 6, 2) := by decide +kernel
theorem dX7_originOf_24 : decode cX7_originOf 24 = .ok (.ireturn, 1) := by decide +kernel
theorem dX7_originOf_25 : decode cX7_originOf 25 = .ok (.iload_n 2, 1) := by decide +kernel
theorem dX7_originOf_26 : decode cX7_originOf 26 = .ok (.iconst 3, 1) := by decide +kernel
theorem dX7_originOf_27 : decode cX7_originOf 27 = .ok (.if_icmp .ne 28, 3) := by decide +kernel
theorem dX7_originOf_30 : decode cX7_originOf 30 = .ok (.iload_n 1, 1) := by decide +kernel
theorem dX7_originOf_31 : decode cX7_originOf 31 = .ok (.invokestatic 65, 3) := by decide +kernel
theorem dX7_originOf_34 : decode cX7_originOf 34 = .ok (.bipush 7, 2) := by decide +kernel
theorem dX7_originOf_36 : decode cX7_originOf 36 = .ok (.if_icmp .ne 19, 3) := by decide +kernel
theorem dX7_originOf_39 : decode cX7_originOf 39 = .ok (.iload_n 3, 1) := by decide +kernel
theorem dX7_originOf_40 : decode cX7_originOf 40 = .ok (.bipush 15, 2) := by decide +kernel
theorem dX7_originOf_42 : decode cX7_originOf 42 = .ok (.aload_n 0, 1) := by decide +kernel
theorem dX7_originOf_43 : decode cX7_originOf 43 = .ok (.iload_n 1, 1) := by decide +kernel
theorem dX7_originOf_44 : decode cX7_originOf 44 = .ok (.iconst 3, 1) := by decide +kernel
theorem dX7_originOf_45 : decode cX7_originOf 45 = .ok (.invokevirtual 93, 3) := by decide +kernel
theorem dX7_originOf_48 : decode cX7_originOf 48 = .ok (.isub, 1) := by decide +kernel
theorem dX7_originOf_49 : decode cX7_originOf 49 = .ok (.if_icmp .ne 6, 3) := by decide +kernel
theorem dX7_originOf_52 : decode cX7_originOf 52 = .ok (.bipush 7, 2) := by decide +kernel
theorem dX7_originOf_54 : decode cX7_originOf 54 = .ok (.ireturn, 1) := by decide +kernel
theorem dX7_originOf_55 : decode cX7_originOf 55 = .ok (.iload_n 1, 1) := by decide +kernel
theorem dX7_originOf_56 : decode cX7_originOf 56 = .ok (.iconst 3, 1) := by decide +kernel
theorem dX7_originOf_57 : decode cX7_originOf 57 = .ok (.invokestatic 100, 3) := by decide +kernel
theorem dX7_originOf_60 : decode cX7_originOf 60 = .ok (.istore 4, 2) := by decide +kernel
theorem dX7_originOf_62 : decode cX7_originOf 62 = .ok (.iload_n 2, 1) := by decide +kernel
theorem dX7_originOf_63 : decode cX7_originOf 63 = .ok (.iconst 3, 1) := by decide +kernel
theorem dX7_originOf_64 : decode cX7_originOf 64 = .ok (.if_icmp .ne 38, 3) := by decide +kernel
theorem dX7_originOf_67 : decode cX7_originOf 67 = .ok (.iload_n 3, 1) := by decide +kernel
theorem dX7_originOf_68 : decode cX7_originOf 68 = .ok (.bipush 15, 2) := by decide +kernel
theorem dX7_originOf_70 : decode cX7_originOf 70 = .ok (.if_icmp .ne 32, 3) := by decide +kernel
theorem dX7_originOf_73 : decode cX7_originOf 73 = .ok (.iload 4, 2) := by decide +kernel
theorem dX7_originOf_75 : decode cX7_originOf 75 = .ok (.ifCond .lt 27, 3) := by decide +kernel
theorem dX7_originOf_78 : decode cX7_originOf 78 = .ok (.aload_n 0, 1) := by decide +kernel
theorem dX7_originOf_79 : decode cX7_originOf 79 = .ok (.iload 4, 2) := by decide +kernel
theorem dX7_originOf_81 : decode cX7_originOf 81 = .ok (.iconst 3, 1) := by decide +kernel
theorem dX7_originOf_82 : decode cX7_originOf 82 = .ok (.invokevirtual 177, 3) := by decide +kernel
theorem dX7_originOf_85 : decode cX7_originOf 85 = .ok (.bipush 15, 2) := by decide +kernel
theorem dX7_originOf_87 : decode cX7_originOf 87 = .ok (.if_icmp .ne 15, 3) := by decide +kernel
theorem dX7_originOf_90 : decode cX7_originOf 90 = .ok (.aload_n 0, 1) := by decide +kernel
theorem dX7_originOf_91 : decode cX7_originOf 91 = .ok (.iload_n 1, 1) := by decide +kernel
theorem dX7_originOf_92 : decode cX7_originOf 92 = .ok (.iconst 3, 1) := by decide +kernel
theorem dX7_originOf_93 : decode cX7_originOf 93 = .ok (.invokevirtual 93, 3) := by decide +kernel
theorem dX7_originOf_96 : decode cX7_originOf 96 = .ok (.ifCond .ne 6, 3) := by decide +kernel
theorem dX7_originOf_99 : decode cX7_originOf 99 = .ok (.bipush 8, 2) := by decide +kernel
theorem dX7_originOf_101 : decode cX7_originOf 101 = .ok (.ireturn, 1) := by decide +kernel
theorem dX7_originOf_102 : decode cX7_originOf 102 = .ok (.iconst 0, 1) := by decide +kernel
theorem dX7_originOf_103 : decode cX7_originOf 103 = .ok (.istore 5, 2) := by decide +kernel
theorem dX7_originOf_105 : decode cX7_originOf 105 = .ok (.iload_n 1, 1) := by decide +kernel
theorem dX7_originOf_106 : decode cX7_originOf 106 = .ok (.iload 5, 2) := by decide +kernel
theorem dX7_originOf_108 : decode cX7_originOf 108 = .ok (.invokestatic 100, 3) := by decide +kernel
theorem dX7_originOf_111 : decode cX7_originOf 111 = .ok (.ifCond .lt 27, 3) := by decide +kernel
theorem dX7_originOf_114 : decode cX7_originOf 114 = .ok (.aload_n 0, 1) := by decide +kernel
theorem dX7_originOf_115 : decode cX7_originOf 115 = .ok (.iload_n 1, 1) := by decide +kernel
theorem dX7_originOf_116 : decode cX7_originOf 116 = .ok (.iload 5, 2) := by decide +kernel
theorem dX7_originOf_118 : decode cX7_originOf 118 = .ok (.invokestatic 100, 3) := by decide +kernel
theorem dX7_originOf_121 : decode cX7_originOf 121 = .ok (.iload_n 2, 1) := by decide +kernel
theorem dX7_originOf_122 : decode cX7_originOf 122 = .ok (.invokevirtual 177, 3) := by decide +kernel
theorem dX7_originOf_125 : decode cX7_originOf 125 = .ok (.iconst 1, 1) := by decide +kernel
theorem dX7_originOf_126 : decode cX7_originOf 126 = .ok (.isub, 1) := by decide +kernel
theorem dX7_originOf_127 : decode cX7_originOf 127 = .ok (.aload_n 0, 1) := by decide +kernel
theorem dX7_originOf_128 : decode cX7_originOf 128 = .ok (.iload_n 1, 1) := by decide +kernel
theorem dX7_originOf_129 : decode cX7_originOf 129 = .ok (.iload_n 2, 1) := by decide +kernel
theorem dX7_originOf_130 : decode cX7_originOf 130 = .ok (.invokevirtual 93, 3) := by decide +kernel
theorem dX7_originOf_133 : decode cX7_originOf 133 = .ok (.isub, 1) := by decide +kernel
theorem dX7_originOf_134 : decode cX7_originOf 134 = .ok (.iload_n 3, 1) := by decide +kernel
theorem dX7_originOf_135 : decode cX7_originOf 135 = .ok (.if_icmp .eq 9, 3) := by decide +kernel
theorem dX7_originOf_138 : decode cX7_originOf 138 = .ok (.iinc 5 1, 3) := by decide +kernel
theorem dX7_originOf_141 : decode cX7_originOf 141 = .ok (.goto (-36), 3) := by decide +kernel
theorem dX7_originOf_144 : decode cX7_originOf 144 = .ok (.iload 5, 2) := by decide +kernel
theorem dX7_originOf_146 : decode cX7_originOf 146 = .ok (.ireturn, 1) := by decide +kernel
theorem dX7_origin_0 : decode cX7_origin 0 = .ok (.iload_n 1, 1) := by decide +kernel
theorem dX7_origin_1 : decode cX7_origin 1 = .ok (.iload_n 2, 1) := by decide +kernel
theorem dX7_origin_2 : decode cX7_origin 2 = .ok (.iload_n 3, 1) := by decide +kernel
theorem dX7_origin_3 : decode cX7_origin 3 = .ok (.invokestatic 71, 3) := by decide +kernel
theorem dX7_origin_6 : decode cX7_origin 6 = .ok (.ifCond .eq 13, 3) := by decide +kernel
theorem dX7_origin_9 : decode cX7_origin 9 = .ok (.iload 4, 2) := by decide +kernel
theorem dX7_origin_11 : decode cX7_origin 11 = .ok (.iconst 0, 1) := by decide +kernel
theorem dX7_origin_12 : decode cX7_origin 12 = .ok (.iconst 3, 1) := by decide +kernel
theorem dX7_origin_13 : decode cX7_origin 13 = .ok (.invokestatic 57, 3) := by decide +kernel
theorem dX7_origin_16 : decode cX7_origin 16 = .ok (.ifCond .ne 5, 3) := by decide +kernel
theorem dX7_origin_19 : decode cX7_origin 19 = .ok (.iconst (-1), 1) := by decide +kernel
theorem dX7_origin_20 : decode cX7_origin 20 = .ok (.ireturn, 1) := by decide +kernel
theorem dX7_origin_21 : decode cX7_origin 21 = .ok (.iload_n 1, 1) := by decide +kernel
theorem dX7_origin_22 : decode cX7_origin 22 = .ok (.iload_n 2, 1) := by decide +kernel
theorem dX7_origin_23 : decode cX7_origin 23 = .ok (.iload_n 3, 1) := by decide +kernel
theorem dX7_origin_24 : decode cX7_origin 24 = .ok (.invokestatic 74, 3) := by decide +kernel
theorem dX7_origin_27 : decode cX7_origin 27 = .ok (.istore 5, 2) := by decide +kernel
theorem dX7_origin_29 : decode cX7_origin 29 = .ok (.aload_n 0, 1) := by decide +kernel
theorem dX7_origin_30 : decode cX7_origin 30 = .ok (.iload 5, 2) := by decide +kernel
theorem dX7_origin_32 : decode cX7_origin 32 = .ok (.iload 4, 2) := by decide +kernel
theorem dX7_origin_34 : decode cX7_origin 34 = .ok (.invokevirtual 177, 3) := by decide +kernel
theorem dX7_origin_37 : decode cX7_origin 37 = .ok (.ifCond .ne 8, 3) := by decide +kernel
theorem dX7_origin_40 : decode cX7_origin 40 = .ok (.bipush (-4), 2) := by decide +kernel
theorem dX7_origin_42 : decode cX7_origin 42 = .ok (.goto 11, 3) := by decide +kernel
theorem dX7_origin_45 : decode cX7_origin 45 = .ok (.aload_n 0, 1) := by decide +kernel
theorem dX7_origin_46 : decode cX7_origin 46 = .ok (.iload 5, 2) := by decide +kernel
theorem dX7_origin_48 : decode cX7_origin 48 = .ok (.iload 4, 2) := by decide +kernel
theorem dX7_origin_50 : decode cX7_origin 50 = .ok (.invokevirtual 183, 3) := by decide +kernel
theorem dX7_origin_53 : decode cX7_origin 53 = .ok (.ireturn, 1) := by decide +kernel
theorem dX7_goBack_0 : decode cX7_goBack 0 = .ok (.iload_n 1, 1) := by decide +kernel
theorem dX7_goBack_1 : decode cX7_goBack 1 = .ok (.istore_n 3, 1) := by decide +kernel
theorem dX7_goBack_2 : decode cX7_goBack 2 = .ok (.aload_n 0, 1) := by decide +kernel
theorem dX7_goBack_3 : decode cX7_goBack 3 = .ok (.iconst 0, 1) := by decide +kernel
theorem dX7_goBack_4 : decode cX7_goBack 4 = .ok (.putfield 186, 3) := by decide +kernel
theorem dX7_goBack_7 : decode cX7_goBack 7 = .ok (.aload_n 0, 1) := by decide +kernel
theorem dX7_goBack_8 : decode cX7_goBack 8 = .ok (.iload_n 3, 1) := by decide +kernel
theorem dX7_goBack_9 : decode cX7_goBack 9 = .ok (.iload_n 2, 1) := by decide +kernel
theorem dX7_goBack_10 : decode cX7_goBack 10 = .ok (.invokevirtual 183, 3) := by decide +kernel
theorem dX7_goBack_13 : decode cX7_goBack 13 = .ok (.istore 4, 2) := by decide +kernel
theorem dX7_goBack_15 : decode cX7_goBack 15 = .ok (.iload 4, 2) := by decide +kernel
theorem dX7_goBack_17 : decode cX7_goBack 17 = .ok (.bipush 6, 2) := by decide +kernel
theorem dX7_goBack_19 : decode cX7_goBack 19 = .ok (.if_icmp .eq 49, 3) := by decide +kernel
theorem dX7_goBack_22 : decode cX7_goBack 22 = .ok (.iload 4, 2) := by decide +kernel
theorem dX7_goBack_24 : decode cX7_goBack 24 = .ok (.bipush 7, 2) := by decide +kernel
theorem dX7_goBack_26 : decode cX7_goBack 26 = .ok (.if_icmp .eq 42, 3) := by decide +kernel
theorem dX7_goBack_29 : decode cX7_goBack 29 = .ok (.iload_n 3, 1) := by decide +kernel
theorem dX7_goBack_30 : decode cX7_goBack 30 = .ok (.iload 4, 2) := by decide +kernel
theorem dX7_goBack_32 : decode cX7_goBack 32 = .ok (.bipush 8, 2) := by decide +kernel
theorem dX7_goBack_34 : decode cX7_goBack 34 = .ok (.if_icmp .ne 7, 3) := by decide +kernel
theorem dX7_goBack_37 : decode cX7_goBack 37 = .ok (.iconst 3, 1) := by decide +kernel
theorem dX7_goBack_38 : decode cX7_goBack 38 = .ok (.goto 5, 3) := by decide +kernel
theorem dX7_goBack_41 : decode cX7_goBack 41 = .ok (.iload 4, 2) := by decide +kernel
theorem dX7_goBack_43 : decode cX7_goBack 43 = .ok (.invokestatic 100, 3) := by decide +kernel
theorem dX7_goBack_46 : decode cX7_goBack 46 = .ok (.istore_n 3, 1) := by decide +kernel
theorem dX7_goBack_47 : decode cX7_goBack 47 = .ok (.aload_n 0, 1) := by decide +kernel
theorem dX7_goBack_48 : decode cX7_goBack 48 = .ok (.dup, 1) := by decide +kernel
theorem dX7_goBack_49 : decode cX7_goBack 49 = .ok (.getfield 186, 3) := by decide +kernel
theorem dX7_goBack_52 : decode cX7_goBack 52 = .ok (.iconst 1, 1) := by decide +kernel
theorem dX7_goBack_53 : decode cX7_goBack 53 = .ok (.iadd, 1) := by decide +kernel
theorem dX7_goBack_54 : decode cX7_goBack 54 = .ok (.putfield 186, 3) := by decide +kernel
theorem dX7_goBack_57 : decode cX7_goBack 57 = .ok (.aload_n 0, 1) := by decide +kernel
theorem dX7_goBack_58 : decode cX7_goBack 58 = .ok (.iload_n 3, 1) := by decide +kernel
theorem dX7_goBack_59 : decode cX7_goBack 59 = .ok (.iload_n 2, 1) := by decide +kernel
theorem dX7_goBack_60 : decode cX7_goBack 60 = .ok (.invokevirtual 183, 3) := by decide +kernel
theorem dX7_goBack_63 : decode cX7_goBack 63 = .ok (.istore 4, 2) := by decide +kernel
theorem dX7_goBack_65 : decode cX7_goBack 65 = .ok (.goto (-50), 3) := by decide +kernel
theorem dX7_goBack_68 : decode cX7_goBack 68 = .ok (.iload_n 3, 1) := by decide +kernel
theorem dX7_goBack_69 : decode cX7_goBack 69 = .ok (.ireturn, 1) := by decide +kernel
theorem dX7_wayLength_0 : decode cX7_wayLength 0 = .ok (.iload_n 1, 1) := by decide +kernel
theorem dX7_wayLength_1 : decode cX7_wayLength 1 = .ok (.iload_n 2, 1) := by decide +kernel
theorem dX7_wayLength_2 : decode cX7_wayLength 2 = .ok (.iload_n 3, 1) := by decide +kernel
theorem dX7_wayLength_3 : decode cX7_wayLength 3 = .ok (.invokestatic 71, 3) := by decide +kernel
theorem dX7_wayLength_6 : decode cX7_wayLength 6 = .ok (.ifCond .eq 13, 3) := by decide +kernel
theorem dX7_wayLength_9 : decode cX7_wayLength 9 = .ok (.iload 4, 2) := by decide +kernel
theorem dX7_wayLength_11 : decode cX7_wayLength 11 = .ok (.iconst 0, 1) := by decide +kernel
theorem dX7_wayLength_12 : decode cX7_wayLength 12 = .ok (.iconst 3, 1) := by decide +kernel
theorem dX7_wayLength_13 : decode cX7_wayLength 13 = .ok (.invokestatic 57, 3) := by decide +kernel
theorem dX7_wayLength_16 : decode cX7_wayLength 16 = .ok (.ifCond .ne 5, 3) := by decide +kernel
theorem dX7_wayLength_19 : decode cX7_wayLength 19 = .ok (.iconst (-1), 1) := by decide +kernel
theorem dX7_wayLength_20 : decode cX7_wayLength 20 = .ok (.ireturn, 1) := by decide +kernel
theorem dX7_wayLength_21 : decode cX7_wayLength 21 = .ok (.aload_n 0, 1) := by decide +kernel
theorem dX7_wayLength_22 : decode cX7_wayLength 22 = .ok (.iload_n 1, 1) := by decide +kernel
theorem dX7_wayLength_23 : decode cX7_wayLength 23 = .ok (.iload_n 2, 1) := by decide +kernel
theorem dX7_wayLength_24 : decode cX7_wayLength 24 = .ok (.iload_n 3, 1) := by decide +kernel
theorem dX7_wayLength_25 : decode cX7_wayLength 25 = .ok (.invokestatic 74, 3) := by decide +kernel
theorem dX7_wayLength_28 : decode cX7_wayLength 28 = .ok (.iload 4, 2) := by decide +kernel
theorem dX7_wayLength_30 : decode cX7_wayLength 30 = .ok (.invokevirtual 177, 3) := by decide +kernel
theorem dX7_wayLength_33 : decode cX7_wayLength 33 = .ok (.ifCond .ne 6, 3) := by decide +kernel
theorem dX7_wayLength_36 : decode cX7_wayLength 36 = .ok (.bipush (-4), 2) := by decide +kernel
theorem dX7_wayLength_38 : decode cX7_wayLength 38 = .ok (.ireturn, 1) := by decide +kernel
theorem dX7_wayLength_39 : decode cX7_wayLength 39 = .ok (.aload_n 0, 1) := by decide +kernel
theorem dX7_wayLength_40 : decode cX7_wayLength 40 = .ok (.iload_n 1, 1) := by decide +kernel
theorem dX7_wayLength_41 : decode cX7_wayLength 41 = .ok (.iload_n 2, 1) := by decide +kernel
theorem dX7_wayLength_42 : decode cX7_wayLength 42 = .ok (.iload_n 3, 1) := by decide +kernel
theorem dX7_wayLength_43 : decode cX7_wayLength 43 = .ok (.invokestatic 74, 3) := by decide +kernel
theorem dX7_wayLength_46 : decode cX7_wayLength 46 = .ok (.iload 4, 2) := by decide +kernel
theorem dX7_wayLength_48 : decode cX7_wayLength 48 = .ok (.invokevirtual 189, 3) := by decide +kernel
theorem dX7_wayLength_51 : decode cX7_wayLength 51 = .ok (.pop, 1) := by decide +kernel
theorem dX7_wayLength_52 : decode cX7_wayLength 52 = .ok (.aload_n 0, 1) := by decide +kernel
theorem dX7_wayLength_53 : decode cX7_wayLength 53 = .ok (.getfield 186, 3) := by decide +kernel
theorem dX7_wayLength_56 : decode cX7_wayLength 56 = .ok (.ireturn, 1) := by decide +kernel
theorem dX7_wayEnd_0 : decode cX7_wayEnd 0 = .ok (.iload_n 1, 1) := by decide +kernel
theorem dX7_wayEnd_1 : decode cX7_wayEnd 1 = .ok (.iload_n 2, 1) := by decide +kernel
theorem dX7_wayEnd_2 : decode cX7_wayEnd 2 = .ok (.iload_n 3, 1) := by decide +kernel
theorem dX7_wayEnd_3 : decode cX7_wayEnd 3 = .ok (.invokestatic 71, 3) := by decide +kernel
theorem dX7_wayEnd_6 : decode cX7_wayEnd 6 = .ok (.ifCond .eq 13, 3) := by decide +kernel
theorem dX7_wayEnd_9 : decode cX7_wayEnd 9 = .ok (.iload 4, 2) := by decide +kernel
theorem dX7_wayEnd_11 : decode cX7_wayEnd 11 = .ok (.iconst 0, 1) := by decide +kernel
theorem dX7_wayEnd_12 : decode cX7_wayEnd 12 = .ok (.iconst 3, 1) := by decide +kernel
theorem dX7_wayEnd_13 : decode cX7_wayEnd 13 = .ok (.invokestatic 57, 3) := by decide +kernel
theorem dX7_wayEnd_16 : decode cX7_wayEnd 16 = .ok (.ifCond .ne 5, 3) := by decide +kernel
theorem dX7_wayEnd_19 : decode cX7_wayEnd 19 = .ok (.iconst (-1), 1) := by decide +kernel
theorem dX7_wayEnd_20 : decode cX7_wayEnd 20 = .ok (.ireturn, 1) := by decide +kernel
theorem dX7_wayEnd_21 : decode cX7_wayEnd 21 = .ok (.aload_n 0, 1) := by decide +kernel
theorem dX7_wayEnd_22 : decode cX7_wayEnd 22 = .ok (.iload_n 1, 1) := by decide +kernel
theorem dX7_wayEnd_23 : decode cX7_wayEnd 23 = .ok (.iload_n 2, 1) := by decide +kernel
theorem dX7_wayEnd_24 : decode cX7_wayEnd 24 = .ok (.iload_n 3, 1) := by decide +kernel
theorem dX7_wayEnd_25 : decode cX7_wayEnd 25 = .ok (.invokestatic 74, 3) := by decide +kernel
theorem dX7_wayEnd_28 : decode cX7_wayEnd 28 = .ok (.iload 4, 2) := by decide +kernel
theorem dX7_wayEnd_30 : decode cX7_wayEnd 30 = .ok (.invokevirtual 177, 3) := by decide +kernel
theorem dX7_wayEnd_33 : decode cX7_wayEnd 33 = .ok (.ifCond .ne 8, 3) := by decide +kernel
theorem dX7_wayEnd_36 : decode cX7_wayEnd 36 = .ok (.bipush (-4), 2) := by decide +kernel
theorem dX7_wayEnd_38 : decode cX7_wayEnd 38 = .ok (.goto 18, 3) := by decide +kernel
theorem dX7_wayEnd_41 : decode cX7_wayEnd 41 = .ok (.aload_n 0, 1) := by decide +kernel
theorem dX7_wayEnd_42 : decode cX7_wayEnd 42 = .ok (.iload_n 1, 1) := by decide +kernel
theorem dX7_wayEnd_43 : decode cX7_wayEnd 43 = .ok (.iload_n 2, 1) := by decide +kernel
theorem dX7_wayEnd_44 : decode cX7_wayEnd 44 = .ok (.iload_n 3, 1) := by decide +kernel
theorem dX7_wayEnd_45 : decode cX7_wayEnd 45 = .ok (.invokestatic 74, 3) := by decide +kernel
theorem dX7_wayEnd_48 : decode cX7_wayEnd 48 = .ok (.iload 4, 2) := by decide +kernel
theorem dX7_wayEnd_50 : decode cX7_wayEnd 50 = .ok (.invokevirtual 189, 3) := by decide +kernel
theorem dX7_wayEnd_53 : decode cX7_wayEnd 53 = .ok (.invokestatic 192, 3) := by decide +kernel
theorem dX7_wayEnd_56 : decode cX7_wayEnd 56 = .ok (.ireturn, 1) := by decide +kernel
theorem dX7_batchSize_0 : decode cX7_batchSize 0 = .ok (.aload_n 0, 1) := by decide +kernel
theorem dX7_batchSize_1 : decode cX7_batchSize 1 = .ok (.getfield 127, 3) := by decide +kernel
theorem dX7_batchSize_4 : decode cX7_batchSize 4 = .ok (.ifCond .eq 10, 3) := by decide +kernel
theorem dX7_batchSize_7 : decode cX7_batchSize 7 = .ok (.aload_n 0, 1) := by decide +kernel
theorem dX7_batchSize_8 : decode cX7_batchSize 8 = .ok (.getfield 120, 3) := by decide +kernel
theorem dX7_batchSize_11 : decode cX7_batchSize 11 = .ok (.goto 5, 3) := by decide +kernel
theorem dX7_batchSize_14 : decode cX7_batchSize 14 = .ok (.bipush (-5), 2) := by decide +kernel
theorem dX7_batchSize_16 : decode cX7_batchSize 16 = .ok (.ireturn, 1) := by decide +kernel
theorem dX7_effect_0 : decode cX7_effect 0 = .ok (.iload_n 1, 1) := by decide +kernel
theorem dX7_effect_1 : decode cX7_effect 1 = .ok (.iconst (-1), 1) := by decide +kernel
theorem dX7_effect_2 : decode cX7_effect 2 = .ok (.if_icmp .ge 6, 3) := by decide +kernel
theorem dX7_effect_5 : decode cX7_effect 5 = .ok (.bipush (-2), 2) := by decide +kernel
theorem dX7_effect_7 : decode cX7_effect 7 = .ok (.ireturn, 1) := by decide +kernel
theorem dX7_effect_8 : decode cX7_effect 8 = .ok (.iload_n 1, 1) := by decide +kernel
theorem dX7_effect_9 : decode cX7_effect 9 = .ok (.iconst (-1), 1) := by decide +kernel
theorem dX7_effect_10 : decode cX7_effect 10 = .ok (.if_icmp .ne 8, 3) := by decide +kernel
theorem dX7_effect_13 : decode cX7_effect 13 = .ok (.aload_n 0, 1) := by decide +kernel
theorem dX7_effect_14 : decode cX7_effect 14 = .ok (.invokevirtual 116, 3) := by decide +kernel
theorem dX7_effect_17 : decode cX7_effect 17 = .ok (.ireturn, 1) := by decide +kernel
theorem dX7_effect_18 : decode cX7_effect 18 = .ok (.iload_n 1, 1) := by decide +kernel
theorem dX7_effect_19 : decode cX7_effect 19 = .ok (.istore_n 2, 1) := by decide +kernel
theorem dX7_effect_20 : decode cX7_effect 20 = .ok (.iconst 0, 1) := by decide +kernel
theorem dX7_effect_21 : decode cX7_effect 21 = .ok (.istore_n 3, 1) := by decide +kernel
theorem dX7_effect_22 : decode cX7_effect 22 = .ok (.iload_n 3, 1) := by decide +kernel
theorem dX7_effect_23 : decode cX7_effect 23 = .ok (.sipush 1152, 3) := by decide +kernel
theorem dX7_effect_26 : decode cX7_effect 26 = .ok (.if_icmp .ge 30, 3) := by decide +kernel
theorem dX7_effect_29 : decode cX7_effect 29 = .ok (.aload_n 0, 1) := by decide +kernel
theorem dX7_effect_30 : decode cX7_effect 30 = .ok (.getfield 22, 3) := by decide +kernel
theorem dX7_effect_33 : decode cX7_effect 33 = .ok (.iload_n 3, 1) := by decide +kernel
theorem dX7_effect_34 : decode cX7_effect 34 = .ok (.baload, 1) := by decide +kernel
theorem dX7_effect_35 : decode cX7_effect 35 = .ok (.ifCond .eq 15, 3) := by decide +kernel
theorem dX7_effect_38 : decode cX7_effect 38 = .ok (.iload_n 2, 1) := by decide +kernel
theorem dX7_effect_39 : decode cX7_effect 39 = .ok (.ifCond .ne 8, 3) := by decide +kernel
theorem dX7_effect_42 : decode cX7_effect 42 = .ok (.iload_n 3, 1) := by decide +kernel
theorem dX7_effect_43 : decode cX7_effect 43 = .ok (.invokestatic 192, 3) := by decide +kernel
theorem dX7_effect_46 : decode cX7_effect 46 = .ok (.ireturn, 1) := by decide +kernel
theorem dX7_effect_47 : decode cX7_effect 47 = .ok (.iinc 2 (-1), 3) := by decide +kernel
theorem dX7_effect_50 : decode cX7_effect 50 = .ok (.iinc 3 1, 3) := by decide +kernel
theorem dX7_effect_53 : decode cX7_effect 53 = .ok (.goto (-31), 3) := by decide +kernel
theorem dX7_effect_56 : decode cX7_effect 56 = .ok (.bipush (-4), 2) := by decide +kernel
theorem dX7_effect_58 : decode cX7_effect 58 = .ok (.ireturn, 1) := by decide +kernel
theorem dX7_effectChunks_0 : decode cX7_effectChunks 0 = .ok (.iconst 0, 1) := by decide +kernel
theorem dX7_effectChunks_1 : decode cX7_effectChunks 1 = .ok (.istore_n 1, 1) := by decide +kernel
theorem dX7_effectChunks_2 : decode cX7_effectChunks 2 = .ok (.iconst 0, 1) := by decide +kernel
theorem dX7_effectChunks_3 : decode cX7_effectChunks 3 = .ok (.istore_n 2, 1) := by decide +kernel
theorem dX7_effectChunks_4 : decode cX7_effectChunks 4 = .ok (.iload_n 2, 1) := by decide +kernel
theorem dX7_effectChunks_5 : decode cX7_effectChunks 5 = .ok (.sipush 1152, 3) := by decide +kernel
theorem dX7_effectChunks_8 : decode cX7_effectChunks 8 = .ok (.if_icmp .ge 31, 3) := by decide +kernel
theorem dX7_effectChunks_11 : decode cX7_effectChunks 11 = .ok (.iload_n 1, 1) := by decide +kernel
theorem dX7_effectChunks_12 : decode cX7_effectChunks 12 = .ok (.aload_n 0, 1) := by decide +kernel
theorem dX7_effectChunks_13 : decode cX7_effectChunks 13 = .ok (.getfield 22, 3) := by decide +kernel
theorem dX7_effectChunks_16 : decode cX7_effectChunks 16 = .ok (.iload_n 2, 1) := by decide +kernel
theorem dX7_effectChunks_17 : decode cX7_effectChunks 17 = .ok (.baload, 1) := by decide +kernel
theorem dX7_effectChunks_18 : decode cX7_effectChunks 18 = .ok (.ifCond .eq 12, 3) := by decide +kernel
theorem dX7_effectChunks_21 : decode cX7_effectChunks 21 = .ok (.iconst 1, 1) := by decide +kernel
theorem dX7_effectChunks_22 : decode cX7_effectChunks 22 = .ok (.iload_n 2, 1) := by decide +kernel
theorem dX7_effectChunks_23 : decode cX7_effectChunks 23 = .ok (.invokestatic 195, 3) := by decide +kernel
theorem dX7_effectChunks_26 : decode cX7_effectChunks 26 = .ok (.ishl, 1) := by decide +kernel
theorem dX7_effectChunks_27 : decode cX7_effectChunks 27 = .ok (.goto 4, 3) := by decide +kernel
theorem dX7_effectChunks_30 : decode cX7_effectChunks 30 = .ok (.iconst 0, 1) := by decide +kernel
theorem dX7_effectChunks_31 : decode cX7_effectChunks 31 = .ok (.ior, 1) := by decide +kernel
theorem dX7_effectChunks_32 : decode cX7_effectChunks 32 = .ok (.istore_n 1, 1) := by decide +kernel
theorem dX7_effectChunks_33 : decode cX7_effectChunks 33 = .ok (.iinc 2 1, 3) := by decide +kernel
theorem dX7_effectChunks_36 : decode cX7_effectChunks 36 = .ok (.goto (-32), 3) := by decide +kernel
theorem dX7_effectChunks_39 : decode cX7_effectChunks 39 = .ok (.iload_n 1, 1) := by decide +kernel
theorem dX7_effectChunks_40 : decode cX7_effectChunks 40 = .ok (.ireturn, 1) := by decide +kernel
theorem dX7_lightIf_0 : decode cX7_lightIf 0 = .ok (.iload_n 1, 1) := by decide +kernel
theorem dX7_lightIf_1 : decode cX7_lightIf 1 = .ok (.iload_n 2, 1) := by decide +kernel
theorem dX7_lightIf_2 : decode cX7_lightIf 2 = .ok (.iload_n 3, 1) := by decide +kernel
theorem dX7_lightIf_3 : decode cX7_lightIf 3 = .ok (.invokestatic 71, 3) := by decide +kernel
theorem dX7_lightIf_6 : decode cX7_lightIf 6 = .ok (.ifCond .eq 21, 3) := by decide +kernel
theorem dX7_lightIf_9 : decode cX7_lightIf 9 = .ok (.iload 4, 2) := by decide +kernel
theorem dX7_lightIf_11 : decode cX7_lightIf 11 = .ok (.invokestatic 123, 3) := by decide +kernel
theorem dX7_lightIf_14 : decode cX7_lightIf 14 = .ok (.ifCond .eq 13, 3) := by decide +kernel
theorem dX7_lightIf_17 : decode cX7_lightIf 17 = .ok (.iload 5, 2) := by decide +kernel
theorem dX7_lightIf_19 : decode cX7_lightIf 19 = .ok (.iconst 0, 1) := by decide +kernel
theorem dX7_lightIf_20 : decode cX7_lightIf 20 = .ok (.iconst 3, 1) := by decide +kernel
theorem dX7_lightIf_21 : decode cX7_lightIf 21 = .ok (.invokestatic 57, 3) := by decide +kernel
theorem dX7_lightIf_24 : decode cX7_lightIf 24 = .ok (.ifCond .ne 5, 3) := by decide +kernel
theorem dX7_lightIf_27 : decode cX7_lightIf 27 = .ok (.iconst (-1), 1) := by decide +kernel
theorem dX7_lightIf_28 : decode cX7_lightIf 28 = .ok (.ireturn, 1) := by decide +kernel
theorem dX7_lightIf_29 : decode cX7_lightIf 29 = .ok (.aload_n 0, 1) := by decide +kernel
theorem dX7_lightIf_30 : decode cX7_lightIf 30 = .ok (.iload_n 1, 1) := by decide +kernel
theorem dX7_lightIf_31 : decode cX7_lightIf 31 = .ok (.iload_n 2, 1) := by decide +kernel
theorem dX7_lightIf_32 : decode cX7_lightIf 32 = .ok (.iload_n 3, 1) := by decide +kernel
theorem dX7_lightIf_33 : decode cX7_lightIf 33 = .ok (.invokestatic 74, 3) := by decide +kernel
theorem dX7_lightIf_36 : decode cX7_lightIf 36 = .ok (.iload 4, 2) := by decide +kernel
theorem dX7_lightIf_38 : decode cX7_lightIf 38 = .ok (.iconst (-1), 1) := by decide +kernel
theorem dX7_lightIf_39 : decode cX7_lightIf 39 = .ok (.iload 5, 2) := by decide +kernel
theorem dX7_lightIf_41 : decode cX7_lightIf 41 = .ok (.invokevirtual 198, 3) := by decide +kernel
theorem dX7_lightIf_44 : decode cX7_lightIf 44 = .ok (.iconst 0, 1) := by decide +kernel
theorem dX7_lightIf_45 : decode cX7_lightIf 45 = .ok (.istore 6, 2) := by decide +kernel
theorem dX7_lightIf_47 : decode cX7_lightIf 47 = .ok (.iconst 0, 1) := by decide +kernel
theorem dX7_lightIf_48 : decode cX7_lightIf 48 = .ok (.istore 7, 2) := by decide +kernel
theorem dX7_lightIf_50 : decode cX7_lightIf 50 = .ok (.iload 7, 2) := by decide +kernel
theorem dX7_lightIf_52 : decode cX7_lightIf 52 = .ok (.sipush 1152, 3) := by decide +kernel
theorem dX7_lightIf_55 : decode cX7_lightIf 55 = .ok (.if_icmp .ge 21, 3) := by decide +kernel
theorem dX7_lightIf_58 : decode cX7_lightIf 58 = .ok (.iload 6, 2) := by decide +kernel
theorem dX7_lightIf_60 : decode cX7_lightIf 60 = .ok (.aload_n 0, 1) := by decide +kernel
theorem dX7_lightIf_61 : decode cX7_lightIf 61 = .ok (.getfield 26, 3) := by decide +kernel
theorem dX7_lightIf_64 : decode cX7_lightIf 64 = .ok (.iload 7, 2) := by decide +kernel
theorem dX7_lightIf_66 : decode cX7_lightIf 66 = .ok (.iaload, 1) := by decide +kernel
theorem dX7_lightIf_67 : decode cX7_lightIf 67 = .ok (.iadd, 1) := by decide +kernel
theorem dX7_lightIf_68 : decode cX7_lightIf 68 = .ok (.istore 6, 2) := by decide +kernel
theorem dX7_lightIf_70 : decode cX7_lightIf 70 = .ok (.iinc 7 1, 3) := by decide +kernel
theorem dX7_lightIf_73 : decode cX7_lightIf 73 = .ok (.goto (-23), 3) := by decide +kernel
theorem dX7_lightIf_76 : decode cX7_lightIf 76 = .ok (.iload 6, 2) := by decide +kernel
theorem dX7_lightIf_78 : decode cX7_lightIf 78 = .ok (.ireturn, 1) := by decide +kernel
theorem dX7_spread_0 : decode cX7_spread 0 = .ok (.iload_n 1, 1) := by decide +kernel
theorem dX7_spread_1 : decode cX7_spread 1 = .ok (.iload_n 2, 1) := by decide +kernel
theorem dX7_spread_2 : decode cX7_spread 2 = .ok (.iload_n 3, 1) := by decide +kernel
theorem dX7_spread_3 : decode cX7_spread 3 = .ok (.invokestatic 71, 3) := by decide +kernel
theorem dX7_spread_6 : decode cX7_spread 6 = .ok (.ifCond .eq 13, 3) := by decide +kernel
theorem dX7_spread_9 : decode cX7_spread 9 = .ok (.iload 4, 2) := by decide +kernel
theorem dX7_spread_11 : decode cX7_spread 11 = .ok (.iconst 0, 1) := by decide +kernel
theorem dX7_spread_12 : decode cX7_spread 12 = .ok (.iconst 2, 1) := by decide +kernel
theorem dX7_spread_13 : decode cX7_spread 13 = .ok (.invokestatic 57, 3) := by decide +kernel
theorem dX7_spread_16 : decode cX7_spread 16 = .ok (.ifCond .ne 5, 3) := by decide +kernel
theorem dX7_spread_19 : decode cX7_spread 19 = .ok (.iconst (-1), 1) := by decide +kernel
theorem dX7_spread_20 : decode cX7_spread 20 = .ok (.ireturn, 1) := by decide +kernel
theorem dX7_spread_21 : decode cX7_spread 21 = .ok (.aload_n 0, 1) := by decide +kernel
theorem dX7_spread_22 : decode cX7_spread 22 = .ok (.iload_n 1, 1) := by decide +kernel
theorem dX7_spread_23 : decode cX7_spread 23 = .ok (.iload_n 2, 1) := by decide +kernel
theorem dX7_spread_24 : decode cX7_spread 24 = .ok (.iload_n 3, 1) := by decide +kernel
theorem dX7_spread_25 : decode cX7_spread 25 = .ok (.invokestatic 74, 3) := by decide +kernel
theorem dX7_spread_28 : decode cX7_spread 28 = .ok (.aload_n 0, 1) := by decide +kernel
theorem dX7_spread_29 : decode cX7_spread 29 = .ok (.getfield 9, 3) := by decide +kernel
theorem dX7_spread_32 : decode cX7_spread 32 = .ok (.iload_n 1, 1) := by decide +kernel
theorem dX7_spread_33 : decode cX7_spread 33 = .ok (.iload_n 2, 1) := by decide +kernel
theorem dX7_spread_34 : decode cX7_spread 34 = .ok (.iload_n 3, 1) := by decide +kernel
theorem dX7_spread_35 : decode cX7_spread 35 = .ok (.invokestatic 74, 3) := by decide +kernel
theorem dX7_spread_38 : decode cX7_spread 38 = .ok (.iaload, 1) := by decide +kernel
theorem dX7_spread_39 : decode cX7_spread 39 = .ok (.iconst 0, 1) := by decide +kernel
theorem dX7_spread_40 : decode cX7_spread 40 = .ok (.iload 4, 2) := by decide +kernel
theorem dX7_spread_42 : decode cX7_spread 42 = .ok (.invokevirtual 198, 3) := by decide +kernel
theorem dX7_spread_45 : decode cX7_spread 45 = .ok (.iconst 0, 1) := by decide +kernel
theorem dX7_spread_46 : decode cX7_spread 46 = .ok (.istore 5, 2) := by decide +kernel
theorem dX7_spread_48 : decode cX7_spread 48 = .ok (.iconst 0, 1) := by decide +kernel
theorem dX7_spread_49 : decode cX7_spread 49 = .ok (.istore 6, 2) := by decide +kernel
theorem dX7_spread_51 : decode cX7_spread 51 = .ok (.iload 6, 2) := by decide +kernel
theorem dX7_spread_53 : decode cX7_spread 53 = .ok (.sipush 1152, 3) := by decide +kernel
theorem dX7_spread_56 : decode cX7_spread 56 = .ok (.if_icmp .ge 37, 3) := by decide +kernel
theorem dX7_spread_59 : decode cX7_spread 59 = .ok (.iload 5, 2) := by decide +kernel
theorem dX7_spread_61 : decode cX7_spread 61 = .ok (.aload_n 0, 1) := by decide +kernel
theorem dX7_spread_62 : decode cX7_spread 62 = .ok (.getfield 26, 3) := by decide +kernel
theorem dX7_spread_65 : decode cX7_spread 65 = .ok (.iload 6, 2) := by decide +kernel
theorem dX7_spread_67 : decode cX7_spread 67 = .ok (.iaload, 1) := by decide +kernel
theorem dX7_spread_68 : decode cX7_spread 68 = .ok (.aload_n 0, 1) := by decide +kernel
theorem dX7_spread_69 : decode cX7_spread 69 = .ok (.iload 6, 2) := by decide +kernel
theorem dX7_spread_71 : decode cX7_spread 71 = .ok (.iload 4, 2) := by decide +kernel
theorem dX7_spread_73 : decode cX7_spread 73 = .ok (.invokevirtual 177, 3) := by decide +kernel
theorem dX7_spread_76 : decode cX7_spread 76 = .ok (.if_icmp .ge 7, 3) := by decide +kernel
theorem dX7_spread_79 : decode cX7_spread 79 = .ok (.iconst 1, 1) := by decide +kernel
theorem dX7_spread_80 : decode cX7_spread 80 = .ok (.goto 4, 3) := by decide +kernel
theorem dX7_spread_83 : decode cX7_spread 83 = .ok (.iconst 0, 1) := by decide +kernel
theorem dX7_spread_84 : decode cX7_spread 84 = .ok (.iadd, 1) := by decide +kernel
theorem dX7_spread_85 : decode cX7_spread 85 = .ok (.istore 5, 2) := by decide +kernel
theorem dX7_spread_87 : decode cX7_spread 87 = .ok (.iinc 6 1, 3) := by decide +kernel
theorem dX7_spread_90 : decode cX7_spread 90 = .ok (.goto (-39), 3) := by decide +kernel
theorem dX7_spread_93 : decode cX7_spread 93 = .ok (.iload 5, 2) := by decide +kernel
theorem dX7_spread_95 : decode cX7_spread 95 = .ok (.ireturn, 1) := by decide +kernel
theorem dX7_needed_0 : decode cX7_needed 0 = .ok (.iload_n 1, 1) := by decide +kernel
theorem dX7_needed_1 : decode cX7_needed 1 = .ok (.iload_n 2, 1) := by decide +kernel
theorem dX7_needed_2 : decode cX7_needed 2 = .ok (.iload_n 3, 1) := by decide +kernel
theorem dX7_needed_3 : decode cX7_needed 3 = .ok (.invokestatic 71, 3) := by decide +kernel
theorem dX7_needed_6 : decode cX7_needed 6 = .ok (.ifCond .eq 19, 3) := by decide +kernel
theorem dX7_needed_9 : decode cX7_needed 9 = .ok (.iload 4, 2) := by decide +kernel
theorem dX7_needed_11 : decode cX7_needed 11 = .ok (.iconst 0, 1) := by decide +kernel
theorem dX7_needed_12 : decode cX7_needed 12 = .ok (.iconst 2, 1) := by decide +kernel
theorem dX7_needed_13 : decode cX7_needed 13 = .ok (.invokestatic 57, 3) := by decide +kernel
theorem dX7_needed_16 : decode cX7_needed 16 = .ok (.ifCond .eq 9, 3) := by decide +kernel
theorem dX7_needed_19 : decode cX7_needed 19 = .ok (.iload_n 2, 1) := by decide +kernel
theorem dX7_needed_20 : decode cX7_needed 20 = .ok (.bipush 7, 2) := by decide +kernel
theorem dX7_needed_22 : decode cX7_needed 22 = .ok (.if_icmp .ne 5, 3) := by decide +kernel
theorem dX7_needed_25 : decode cX7_needed 25 = .ok (.iconst (-1), 1) := by decide +kernel
theorem dX7_needed_26 : decode cX7_needed 26 = .ok (.ireturn, 1) := by decide +kernel
theorem dX7_needed_27 : decode cX7_needed 27 = .ok (.iload 5, 2) := by decide +kernel
theorem dX7_needed_29 : decode cX7_needed 29 = .ok (.iconst 0, 1) := by decide +kernel
theorem dX7_needed_30 : decode cX7_needed 30 = .ok (.bipush 15, 2) := by decide +kernel
theorem dX7_needed_32 : decode cX7_needed 32 = .ok (.invokestatic 57, 3) := by decide +kernel
theorem dX7_needed_35 : decode cX7_needed 35 = .ok (.ifCond .ne 6, 3) := by decide +kernel
theorem dX7_needed_38 : decode cX7_needed 38 = .ok (.bipush (-2), 2) := by decide +kernel
theorem dX7_needed_40 : decode cX7_needed 40 = .ok (.ireturn, 1) := by decide +kernel
theorem dX7_needed_41 : decode cX7_needed 41 = .ok (.iconst 0, 1) := by decide +kernel
theorem dX7_needed_42 : decode cX7_needed 42 = .ok (.istore 6, 2) := by decide +kernel
theorem dX7_needed_44 : decode cX7_needed 44 = .ok (.iload 6, 2) := by decide +kernel
theorem dX7_needed_46 : decode cX7_needed 46 = .ok (.bipush 15, 2) := by decide +kernel
theorem dX7_needed_48 : decode cX7_needed 48 = .ok (.if_icmp .gt 55, 3) := by decide +kernel
theorem dX7_needed_51 : decode cX7_needed 51 = .ok (.aload_n 0, 1) := by decide +kernel
theorem dX7_needed_52 : decode cX7_needed 52 = .ok (.iload_n 1, 1) := by decide +kernel
theorem dX7_needed_53 : decode cX7_needed 53 = .ok (.iload_n 2, 1) := by decide +kernel
theorem dX7_needed_54 : decode cX7_needed 54 = .ok (.iload_n 3, 1) := by decide +kernel
theorem dX7_needed_55 : decode cX7_needed 55 = .ok (.invokestatic 74, 3) := by decide +kernel
theorem dX7_needed_58 : decode cX7_needed 58 = .ok (.aload_n 0, 1) := by decide +kernel
theorem dX7_needed_59 : decode cX7_needed 59 = .ok (.getfield 9, 3) := by decide +kernel
theorem dX7_needed_62 : decode cX7_needed 62 = .ok (.iload_n 1, 1) := by decide +kernel
theorem dX7_needed_63 : decode cX7_needed 63 = .ok (.iload_n 2, 1) := by decide +kernel
theorem dX7_needed_64 : decode cX7_needed 64 = .ok (.iload_n 3, 1) := by decide +kernel
theorem dX7_needed_65 : decode cX7_needed 65 = .ok (.invokestatic 74, 3) := by decide +kernel
theorem dX7_needed_68 : decode cX7_needed 68 = .ok (.iaload, 1) := by decide +kernel
theorem dX7_needed_69 : decode cX7_needed 69 = .ok (.iload 6, 2) := by decide +kernel
theorem dX7_needed_71 : decode cX7_needed 71 = .ok (.iload 4, 2) := by decide +kernel
theorem dX7_needed_73 : decode cX7_needed 73 = .ok (.invokevirtual 198, 3) := by decide +kernel
theorem dX7_needed_76 : decode cX7_needed 76 = .ok (.aload_n 0, 1) := by decide +kernel
theorem dX7_needed_77 : decode cX7_needed 77 = .ok (.getfield 26, 3) := by decide +kernel
theorem dX7_needed_80 : decode cX7_needed 80 = .ok (.iload_n 1, 1) := by decide +kernel
theorem dX7_needed_81 : decode cX7_needed 81 = .ok (.iload_n 2, 1) := by decide +kernel
theorem dX7_needed_82 : decode cX7_needed 82 = .ok (.iconst 1, 1) := by decide +kernel
theorem dX7_needed_83 : decode cX7_needed 83 = .ok (.iadd, 1) := by decide +kernel
theorem dX7_needed_84 : decode cX7_needed 84 = .ok (.iload_n 3, 1) := by decide +kernel
theorem dX7_needed_85 : decode cX7_needed 85 = .ok (.invokestatic 74, 3) := by decide +kernel
theorem dX7_needed_88 : decode cX7_needed 88 = .ok (.iaload, 1) := by decide +kernel
theorem dX7_needed_89 : decode cX7_needed 89 = .ok (.iload 5, 2) := by decide +kernel
theorem dX7_needed_91 : decode cX7_needed 91 = .ok (.if_icmp .lt 6, 3) := by decide +kernel
theorem dX7_needed_94 : decode cX7_needed 94 = .ok (.iload 6, 2) := by decide +kernel
theorem dX7_needed_96 : decode cX7_needed 96 = .ok (.ireturn, 1) := by decide +kernel
theorem dX7_needed_97 : decode cX7_needed 97 = .ok (.iinc 6 1, 3) := by decide +kernel
theorem dX7_needed_100 : decode cX7_needed 100 = .ok (.goto (-56), 3) := by decide +kernel
theorem dX7_needed_103 : decode cX7_needed 103 = .ok (.bipush (-4), 2) := by decide +kernel
theorem dX7_needed_105 : decode cX7_needed 105 = .ok (.ireturn, 1) := by decide +kernel
theorem dX7_chunkSum_0 : decode cX7_chunkSum 0 = .ok (.iload_n 1, 1) := by decide +kernel
theorem dX7_chunkSum_1 : decode cX7_chunkSum 1 = .ok (.iconst 0, 1) := by decide +kernel
theorem dX7_chunkSum_2 : decode cX7_chunkSum 2 = .ok (.bipush 8, 2) := by decide +kernel
theorem dX7_chunkSum_4 : decode cX7_chunkSum 4 = .ok (.invokestatic 57, 3) := by decide +kernel
theorem dX7_chunkSum_7 : decode cX7_chunkSum 7 = .ok (.ifCond .eq 12, 3) := by decide +kernel
theorem dX7_chunkSum_10 : decode cX7_chunkSum 10 = .ok (.iload_n 2, 1) := by decide +kernel
theorem dX7_chunkSum_11 : decode cX7_chunkSum 11 = .ok (.iconst 0, 1) := by decide +kernel
theorem dX7_chunkSum_12 : decode cX7_chunkSum 12 = .ok (.iconst 3, 1) := by decide +kernel
theorem dX7_chunkSum_13 : decode cX7_chunkSum 13 = .ok (.invokestatic 57, 3) := by decide +kernel
theorem dX7_chunkSum_16 : decode cX7_chunkSum 16 = .ok (.ifCond .ne 5, 3) := by decide +kernel
theorem dX7_chunkSum_19 : decode cX7_chunkSum 19 = .ok (.iconst (-1), 1) := by decide +kernel
theorem dX7_chunkSum_20 : decode cX7_chunkSum 20 = .ok (.ireturn, 1) := by decide +kernel
theorem dX7_chunkSum_21 : decode cX7_chunkSum 21 = .ok (.iconst 0, 1) := by decide +kernel
theorem dX7_chunkSum_22 : decode cX7_chunkSum 22 = .ok (.istore_n 3, 1) := by decide +kernel
theorem dX7_chunkSum_23 : decode cX7_chunkSum 23 = .ok (.iconst 0, 1) := by decide +kernel
theorem dX7_chunkSum_24 : decode cX7_chunkSum 24 = .ok (.istore 4, 2) := by decide +kernel
theorem dX7_chunkSum_26 : decode cX7_chunkSum 26 = .ok (.iload 4, 2) := by decide +kernel
theorem dX7_chunkSum_28 : decode cX7_chunkSum 28 = .ok (.sipush 1152, 3) := by decide +kernel
theorem dX7_chunkSum_31 : decode cX7_chunkSum 31 = .ok (.if_icmp .ge 32, 3) := by decide +kernel
theorem dX7_chunkSum_34 : decode cX7_chunkSum 34 = .ok (.iload_n 3, 1) := by decide +kernel
theorem dX7_chunkSum_35 : decode cX7_chunkSum 35 = .ok (.iload 4, 2) := by decide +kernel
theorem dX7_chunkSum_37 : decode cX7_chunkSum 37 = .ok (.invokestatic 195, 3) := by decide +kernel
theorem dX7_chunkSum_40 : decode cX7_chunkSum 40 = .ok (.iload_n 1, 1) := by decide +kernel
theorem dX7_chunkSum_41 : decode cX7_chunkSum 41 = .ok (.if_icmp .ne 13, 3) := by decide +kernel
theorem dX7_chunkSum_44 : decode cX7_chunkSum 44 = .ok (.aload_n 0, 1) := by decide +kernel
theorem dX7_chunkSum_45 : decode cX7_chunkSum 45 = .ok (.iload 4, 2) := by decide +kernel
theorem dX7_chunkSum_47 : decode cX7_chunkSum 47 = .ok (.iload_n 2, 1) := by decide +kernel
theorem dX7_chunkSum_48 : decode cX7_chunkSum 48 = .ok (.invokevirtual 177, 3) := by decide +kernel
theorem dX7_chunkSum_51 : decode cX7_chunkSum 51 = .ok (.goto 4, 3) := by decide +kernel
theorem dX7_chunkSum_54 : decode cX7_chunkSum 54 = .ok (.iconst 0, 1) := by decide +kernel
theorem dX7_chunkSum_55 : decode cX7_chunkSum 55 = .ok (.iadd, 1) := by decide +kernel
theorem dX7_chunkSum_56 : decode cX7_chunkSum 56 = .ok (.istore_n 3, 1) := by decide +kernel
theorem dX7_chunkSum_57 : decode cX7_chunkSum 57 = .ok (.iinc 4 1, 3) := by decide +kernel
theorem dX7_chunkSum_60 : decode cX7_chunkSum 60 = .ok (.goto (-34), 3) := by decide +kernel
theorem dX7_chunkSum_63 : decode cX7_chunkSum 63 = .ok (.iload_n 3, 1) := by decide +kernel
theorem dX7_chunkSum_64 : decode cX7_chunkSum 64 = .ok (.ireturn, 1) := by decide +kernel
theorem dX7_crossings_0 : decode cX7_crossings 0 = .ok (.iload_n 1, 1) := by decide +kernel
theorem dX7_crossings_1 : decode cX7_crossings 1 = .ok (.iconst 0, 1) := by decide +kernel
theorem dX7_crossings_2 : decode cX7_crossings 2 = .ok (.bipush 8, 2) := by decide +kernel
theorem dX7_crossings_4 : decode cX7_crossings 4 = .ok (.invokestatic 57, 3) := by decide +kernel
theorem dX7_crossings_7 : decode cX7_crossings 7 = .ok (.ifCond .eq 22, 3) := by decide +kernel
theorem dX7_crossings_10 : decode cX7_crossings 10 = .ok (.iload_n 2, 1) := by decide +kernel
theorem dX7_crossings_11 : decode cX7_crossings 11 = .ok (.iconst 0, 1) := by decide +kernel
theorem dX7_crossings_12 : decode cX7_crossings 12 = .ok (.bipush 8, 2) := by decide +kernel
theorem dX7_crossings_14 : decode cX7_crossings 14 = .ok (.invokestatic 57, 3) := by decide +kernel
theorem dX7_crossings_17 : decode cX7_crossings 17 = .ok (.ifCond .eq 12, 3) := by decide +kernel
theorem dX7_crossings_20 : decode cX7_crossings 20 = .ok (.iload_n 3, 1) := by decide +kernel
theorem dX7_crossings_21 : decode cX7_crossings 21 = .ok (.iconst 0, 1) := by decide +kernel
theorem dX7_crossings_22 : decode cX7_crossings 22 = .ok (.iconst 3, 1) := by decide +kernel
theorem dX7_crossings_23 : decode cX7_crossings 23 = .ok (.invokestatic 57, 3) := by decide +kernel
theorem dX7_crossings_26 : decode cX7_crossings 26 = .ok (.ifCond .ne 5, 3) := by decide +kernel
theorem dX7_crossings_29 : decode cX7_crossings 29 = .ok (.iconst (-1), 1) := by decide +kernel
theorem dX7_crossings_30 : decode cX7_crossings 30 = .ok (.ireturn, 1) := by decide +kernel
theorem dX7_crossings_31 : decode cX7_crossings 31 = .ok (.iload_n 1, 1) := by decide +kernel
theorem dX7_crossings_32 : decode cX7_crossings 32 = .ok (.iload_n 2, 1) := by decide +kernel
theorem dX7_crossings_33 : decode cX7_crossings 33 = .ok (.if_icmp .ne 6, 3) := by decide +kernel
theorem dX7_crossings_36 : decode cX7_crossings 36 = .ok (.bipush (-2), 2) := by decide +kernel
theorem dX7_crossings_38 : decode cX7_crossings 38 = .ok (.ireturn, 1) := by decide +kernel
theorem dX7_crossings_39 : decode cX7_crossings 39 = .ok (.iconst 0, 1) := by decide +kernel
theorem dX7_crossings_40 : decode cX7_crossings 40 = .ok (.istore 4, 2) := by decide +kernel
theorem dX7_crossings_42 : decode cX7_crossings 42 = .ok (.iconst 0, 1) := by decide +kernel
theorem dX7_crossings_43 : decode cX7_crossings 43 = .ok (.istore 5, 2) := by decide +kernel
theorem dX7_crossings_45 : decode cX7_crossings 45 = .ok (.iload 5, 2) := by decide +kernel
theorem dX7_crossings_47 : decode cX7_crossings 47 = .ok (.sipush 1152, 3) := by decide +kernel
theorem dX7_crossings_50 : decode cX7_crossings 50 = .ok (.if_icmp .ge 68, 3) := by decide +kernel
theorem dX7_crossings_53 : decode cX7_crossings 53 = .ok (.iload 5, 2) := by decide +kernel
theorem dX7_crossings_55 : decode cX7_crossings 55 = .ok (.invokestatic 195, 3) := by decide +kernel
theorem dX7_crossings_58 : decode cX7_crossings 58 = .ok (.iload_n 1, 1) := by decide +kernel
theorem dX7_crossings_59 : decode cX7_crossings 59 = .ok (.if_icmp .ne 53, 3) := by decide +kernel
theorem dX7_crossings_62 : decode cX7_crossings 62 = .ok (.aload_n 0, 1) := by decide +kernel
theorem dX7_crossings_63 : decode cX7_crossings 63 = .ok (.iload 5, 2) := by decide +kernel
theorem dX7_crossings_65 : decode cX7_crossings 65 = .ok (.iload_n 3, 1) := by decide +kernel
theorem dX7_crossings_66 : decode cX7_crossings 66 = .ok (.invokevirtual 177, 3) := by decide +kernel
theorem dX7_crossings_69 : decode cX7_crossings 69 = .ok (.ifCond .le 43, 3) := by decide +kernel
theorem dX7_crossings_72 : decode cX7_crossings 72 = .ok (.aload_n 0, 1) := by decide +kernel
theorem dX7_crossings_73 : decode cX7_crossings 73 = .ok (.iload 5, 2) := by decide +kernel
theorem dX7_crossings_75 : decode cX7_crossings 75 = .ok (.iload_n 3, 1) := by decide +kernel
theorem dX7_crossings_76 : decode cX7_crossings 76 = .ok (.invokevirtual 183, 3) := by decide +kernel
theorem dX7_crossings_79 : decode cX7_crossings 79 = .ok (.istore 6, 2) := by decide +kernel
theorem dX7_crossings_81 : decode cX7_crossings 81 = .ok (.iload 4, 2) := by decide +kernel
theorem dX7_crossings_83 : decode cX7_crossings 83 = .ok (.iload 6, 2) := by decide +kernel
theorem dX7_crossings_85 : decode cX7_crossings 85 = .ok (.bipush 6, 2) := by decide +kernel
theorem dX7_crossings_87 : decode cX7_crossings 87 = .ok (.if_icmp .ge 21, 3) := by decide +kernel
theorem dX7_crossings_90 : decode cX7_crossings 90 = .ok (.iload 5, 2) := by decide +kernel
theorem dX7_crossings_92 : decode cX7_crossings 92 = .ok (.iload 6, 2) := by decide +kernel
theorem dX7_crossings_94 : decode cX7_crossings 94 = .ok (.invokestatic 100, 3) := by decide +kernel
theorem dX7_crossings_97 : decode cX7_crossings 97 = .ok (.invokestatic 195, 3) := by decide +kernel
theorem dX7_crossings_100 : decode cX7_crossings 100 = .ok (.iload_n 2, 1) := by decide +kernel
theorem dX7_crossings_101 : decode cX7_crossings 101 = .ok (.if_icmp .ne 7, 3) := by decide +kernel
theorem dX7_crossings_104 : decode cX7_crossings 104 = .ok (.iconst 1, 1) := by decide +kernel
theorem dX7_crossings_105 : decode cX7_crossings 105 = .ok (.goto 4, 3) := by decide +kernel
theorem dX7_crossings_108 : decode cX7_crossings 108 = .ok (.iconst 0, 1) := by decide +kernel
theorem dX7_crossings_109 : decode cX7_crossings 109 = .ok (.iadd, 1) := by decide +kernel
theorem dX7_crossings_110 : decode cX7_crossings 110 = .ok (.istore 4, 2) := by decide +kernel
theorem dX7_crossings_112 : decode cX7_crossings 112 = .ok (.iinc 5 1, 3) := by decide +kernel
theorem dX7_crossings_115 : decode cX7_crossings 115 = .ok (.goto (-70), 3) := by decide +kernel
theorem dX7_crossings_118 : decode cX7_crossings 118 = .ok (.iload 4, 2) := by decide +kernel
theorem dX7_crossings_120 : decode cX7_crossings 120 = .ok (.ireturn, 1) := by decide +kernel
theorem dX7_dark_0 : decode cX7_dark 0 = .ok (.iload_n 1, 1) := by decide +kernel
theorem dX7_dark_1 : decode cX7_dark 1 = .ok (.iconst 0, 1) := by decide +kernel
theorem dX7_dark_2 : decode cX7_dark 2 = .ok (.bipush 15, 2) := by decide +kernel
theorem dX7_dark_4 : decode cX7_dark 4 = .ok (.invokestatic 57, 3) := by decide +kernel
theorem dX7_dark_7 : decode cX7_dark 7 = .ok (.ifCond .ne 6, 3) := by decide +kernel
theorem dX7_dark_10 : decode cX7_dark 10 = .ok (.bipush (-2), 2) := by decide +kernel
theorem dX7_dark_12 : decode cX7_dark 12 = .ok (.ireturn, 1) := by decide +kernel
theorem dX7_dark_13 : decode cX7_dark 13 = .ok (.iconst 0, 1) := by decide +kernel
theorem dX7_dark_14 : decode cX7_dark 14 = .ok (.istore_n 2, 1) := by decide +kernel
theorem dX7_dark_15 : decode cX7_dark 15 = .ok (.iconst 0, 1) := by decide +kernel
theorem dX7_dark_16 : decode cX7_dark 16 = .ok (.istore_n 3, 1) := by decide +kernel
theorem dX7_dark_17 : decode cX7_dark 17 = .ok (.iload_n 3, 1) := by decide +kernel
theorem dX7_dark_18 : decode cX7_dark 18 = .ok (.sipush 1152, 3) := by decide +kernel
theorem dX7_dark_21 : decode cX7_dark 21 = .ok (.if_icmp .ge 61, 3) := by decide +kernel
theorem dX7_dark_24 : decode cX7_dark 24 = .ok (.iconst 1, 1) := by decide +kernel
theorem dX7_dark_25 : decode cX7_dark 25 = .ok (.istore 4, 2) := by decide +kernel
theorem dX7_dark_27 : decode cX7_dark 27 = .ok (.iconst 0, 1) := by decide +kernel
theorem dX7_dark_28 : decode cX7_dark 28 = .ok (.istore 5, 2) := by decide +kernel
theorem dX7_dark_30 : decode cX7_dark 30 = .ok (.iload 5, 2) := by decide +kernel
theorem dX7_dark_32 : decode cX7_dark 32 = .ok (.iconst 4, 1) := by decide +kernel
theorem dX7_dark_33 : decode cX7_dark 33 = .ok (.if_icmp .ge 30, 3) := by decide +kernel
theorem dX7_dark_36 : decode cX7_dark 36 = .ok (.iload 4, 2) := by decide +kernel
theorem dX7_dark_38 : decode cX7_dark 38 = .ok (.aload_n 0, 1) := by decide +kernel
theorem dX7_dark_39 : decode cX7_dark 39 = .ok (.iload_n 3, 1) := by decide +kernel
theorem dX7_dark_40 : decode cX7_dark 40 = .ok (.iload 5, 2) := by decide +kernel
theorem dX7_dark_42 : decode cX7_dark 42 = .ok (.invokevirtual 177, 3) := by decide +kernel
theorem dX7_dark_45 : decode cX7_dark 45 = .ok (.iload_n 1, 1) := by decide +kernel
theorem dX7_dark_46 : decode cX7_dark 46 = .ok (.if_icmp .gt 7, 3) := by decide +kernel
theorem dX7_dark_49 : decode cX7_dark 49 = .ok (.iconst 1, 1) := by decide +kernel
theorem dX7_dark_50 : decode cX7_dark 50 = .ok (.goto 4, 3) := by decide +kernel
theorem dX7_dark_53 : decode cX7_dark 53 = .ok (.iconst 0, 1) := by decide +kernel
theorem dX7_dark_54 : decode cX7_dark 54 = .ok (.iand, 1) := by decide +kernel
theorem dX7_dark_55 : decode cX7_dark 55 = .ok (.istore 4, 2) := by decide +kernel
theorem dX7_dark_57 : decode cX7_dark 57 = .ok (.iinc 5 1, 3) := by decide +kernel
theorem dX7_dark_60 : decode cX7_dark 60 = .ok (.goto (-30), 3) := by decide +kernel
theorem dX7_dark_63 : decode cX7_dark 63 = .ok (.iload_n 2, 1) := by decide +kernel
theorem dX7_dark_64 : decode cX7_dark 64 = .ok (.iload 4, 2) := by decide +kernel
theorem dX7_dark_66 : decode cX7_dark 66 = .ok (.ifCond .eq 7, 3) := by decide +kernel
theorem dX7_dark_69 : decode cX7_dark 69 = .ok (.iconst 1, 1) := by decide +kernel
theorem dX7_dark_70 : decode cX7_dark 70 = .ok (.goto 4, 3) := by decide +kernel
theorem dX7_dark_73 : decode cX7_dark 73 = .ok (.iconst 0, 1) := by decide +kernel
theorem dX7_dark_74 : decode cX7_dark 74 = .ok (.iadd, 1) := by decide +kernel
theorem dX7_dark_75 : decode cX7_dark 75 = .ok (.istore_n 2, 1) := by decide +kernel
theorem dX7_dark_76 : decode cX7_dark 76 = .ok (.iinc 3 1, 3) := by decide +kernel
theorem dX7_dark_79 : decode cX7_dark 79 = .ok (.goto (-62), 3) := by decide +kernel
theorem dX7_dark_82 : decode cX7_dark 82 = .ok (.iload_n 2, 1) := by decide +kernel
theorem dX7_dark_83 : decode cX7_dark 83 = .ok (.ireturn, 1) := by decide +kernel
theorem dX7_skyHeight_0 : decode cX7_skyHeight 0 = .ok (.iload_n 1, 1) := by decide +kernel
theorem dX7_skyHeight_1 : decode cX7_skyHeight 1 = .ok (.iconst 0, 1) := by decide +kernel
theorem dX7_skyHeight_2 : decode cX7_skyHeight 2 = .ok (.iload_n 2, 1) := by decide +kernel
theorem dX7_skyHeight_3 : decode cX7_skyHeight 3 = .ok (.invokestatic 71, 3) := by decide +kernel
theorem dX7_skyHeight_6 : decode cX7_skyHeight 6 = .ok (.ifCond .ne 5, 3) := by decide +kernel
theorem dX7_skyHeight_9 : decode cX7_skyHeight 9 = .ok (.iconst (-1), 1) := by decide +kernel
theorem dX7_skyHeight_10 : decode cX7_skyHeight 10 = .ok (.ireturn, 1) := by decide +kernel
theorem dX7_skyHeight_11 : decode cX7_skyHeight 11 = .ok (.bipush 8, 2) := by decide +kernel
theorem dX7_skyHeight_13 : decode cX7_skyHeight 13 = .ok (.istore_n 3, 1) := by decide +kernel
theorem dX7_skyHeight_14 : decode cX7_skyHeight 14 = .ok (.iload_n 3, 1) := by decide +kernel
theorem dX7_skyHeight_15 : decode cX7_skyHeight 15 = .ok (.ifCond .le 27, 3) := by decide +kernel
theorem dX7_skyHeight_18 : decode cX7_skyHeight 18 = .ok (.aload_n 0, 1) := by decide +kernel
theorem dX7_skyHeight_19 : decode cX7_skyHeight 19 = .ok (.iload_n 1, 1) := by decide +kernel
theorem dX7_skyHeight_20 : decode cX7_skyHeight 20 = .ok (.iload_n 3, 1) := by decide +kernel
theorem dX7_skyHeight_21 : decode cX7_skyHeight 21 = .ok (.iconst 1, 1) := by decide +kernel
theorem dX7_skyHeight_22 : decode cX7_skyHeight 22 = .ok (.isub, 1) := by decide +kernel
theorem dX7_skyHeight_23 : decode cX7_skyHeight 23 = .ok (.iload_n 2, 1) := by decide +kernel
theorem dX7_skyHeight_24 : decode cX7_skyHeight 24 = .ok (.invokestatic 74, 3) := by decide +kernel
theorem dX7_skyHeight_27 : decode cX7_skyHeight 27 = .ok (.iconst 3, 1) := by decide +kernel
theorem dX7_skyHeight_28 : decode cX7_skyHeight 28 = .ok (.invokevirtual 177, 3) := by decide +kernel
theorem dX7_skyHeight_31 : decode cX7_skyHeight 31 = .ok (.bipush 15, 2) := by decide +kernel
theorem dX7_skyHeight_33 : decode cX7_skyHeight 33 = .ok (.if_icmp .ne 9, 3) := by decide +kernel
theorem dX7_skyHeight_36 : decode cX7_skyHeight 36 = .ok (.iinc 3 (-1), 3) := by decide +kernel
theorem dX7_skyHeight_39 : decode cX7_skyHeight 39 = .ok (.goto (-25), 3) := by decide +kernel
theorem dX7_skyHeight_42 : decode cX7_skyHeight 42 = .ok (.iload_n 3, 1) := by decide +kernel
theorem dX7_skyHeight_43 : decode cX7_skyHeight 43 = .ok (.ireturn, 1) := by decide +kernel
theorem dX7_ray_0 : decode cX7_ray 0 = .ok (.iload_n 1, 1) := by decide +kernel
theorem dX7_ray_1 : decode cX7_ray 1 = .ok (.iload_n 2, 1) := by decide +kernel
theorem dX7_ray_2 : decode cX7_ray 2 = .ok (.iload_n 3, 1) := by decide +kernel
theorem dX7_ray_3 : decode cX7_ray 3 = .ok (.invokestatic 71, 3) := by decide +kernel
theorem dX7_ray_6 : decode cX7_ray 6 = .ok (.ifCond .eq 23, 3) := by decide +kernel
theorem dX7_ray_9 : decode cX7_ray 9 = .ok (.iload 4, 2) := by decide +kernel
theorem dX7_ray_11 : decode cX7_ray 11 = .ok (.iconst 0, 1) := by decide +kernel
theorem dX7_ray_12 : decode cX7_ray 12 = .ok (.iconst 5, 1) := by decide +kernel
theorem dX7_ray_13 : decode cX7_ray 13 = .ok (.invokestatic 57, 3) := by decide +kernel
theorem dX7_ray_16 : decode cX7_ray 16 = .ok (.ifCond .eq 13, 3) := by decide +kernel
theorem dX7_ray_19 : decode cX7_ray 19 = .ok (.iload 5, 2) := by decide +kernel
theorem dX7_ray_21 : decode cX7_ray 21 = .ok (.iconst 0, 1) := by decide +kernel
theorem dX7_ray_22 : decode cX7_ray 22 = .ok (.iconst 3, 1) := by decide +kernel
theorem dX7_ray_23 : decode cX7_ray 23 = .ok (.invokestatic 57, 3) := by decide +kernel
theorem dX7_ray_26 : decode cX7_ray 26 = .ok (.ifCond .ne 5, 3) := by decide +kernel
theorem dX7_ray_29 : decode cX7_ray 29 = .ok (.iconst (-1), 1) := by decide +kernel
theorem dX7_ray_30 : decode cX7_ray 30 = .ok (.ireturn, 1) := by decide +kernel
theorem dX7_ray_31 : decode cX7_ray 31 = .ok (.iconst 0, 1) := by decide +kernel
theorem dX7_ray_32 : decode cX7_ray 32 = .ok (.istore 6, 2) := by decide +kernel
theorem dX7_ray_34 : decode cX7_ray 34 = .ok (.bipush 15, 2) := by decide +kernel
theorem dX7_ray_36 : decode cX7_ray 36 = .ok (.istore 7, 2) := by decide +kernel
theorem dX7_ray_38 : decode cX7_ray 38 = .ok (.iload_n 1, 1) := by decide +kernel
theorem dX7_ray_39 : decode cX7_ray 39 = .ok (.iload_n 2, 1) := by decide +kernel
theorem dX7_ray_40 : decode cX7_ray 40 = .ok (.iload_n 3, 1) := by decide +kernel
theorem dX7_ray_41 : decode cX7_ray 41 = .ok (.invokestatic 74, 3) := by decide +kernel
theorem dX7_ray_44 : decode cX7_ray 44 = .ok (.iload 4, 2) := by decide +kernel
theorem dX7_ray_46 : decode cX7_ray 46 = .ok (.invokestatic 100, 3) := by decide +kernel
theorem dX7_ray_49 : decode cX7_ray 49 = .ok (.istore 8, 2) := by decide +kernel
theorem dX7_ray_51 : decode cX7_ray 51 = .ok (.iload 8, 2) := by decide +kernel
theorem dX7_ray_53 : decode cX7_ray 53 = .ok (.ifCond .lt 44, 3) := by decide +kernel
theorem dX7_ray_56 : decode cX7_ray 56 = .ok (.iload 7, 2) := by decide +kernel
theorem dX7_ray_58 : decode cX7_ray 58 = .ok (.aload_n 0, 1) := by decide +kernel
theorem dX7_ray_59 : decode cX7_ray 59 = .ok (.iload 8, 2) := by decide +kernel
theorem dX7_ray_61 : decode cX7_ray 61 = .ok (.iload 5, 2) := by decide +kernel
theorem dX7_ray_63 : decode cX7_ray 63 = .ok (.invokevirtual 93, 3) := by decide +kernel
theorem dX7_ray_66 : decode cX7_ray 66 = .ok (.if_icmp .le 31, 3) := by decide +kernel
theorem dX7_ray_69 : decode cX7_ray 69 = .ok (.iload 7, 2) := by decide +kernel
theorem dX7_ray_71 : decode cX7_ray 71 = .ok (.aload_n 0, 1) := by decide +kernel
theorem dX7_ray_72 : decode cX7_ray 72 = .ok (.iload 8, 2) := by decide +kernel
theorem dX7_ray_74 : decode cX7_ray 74 = .ok (.iload 5, 2) := by decide +kernel
theorem dX7_ray_76 : decode cX7_ray 76 = .ok (.invokevirtual 93, 3) := by decide +kernel
theorem dX7_ray_79 : decode cX7_ray 79 = .ok (.isub, 1) := by decide +kernel
theorem dX7_ray_80 : decode cX7_ray 80 = .ok (.istore 7, 2) := by decide +kernel
theorem dX7_ray_82 : decode cX7_ray 82 = .ok (.iinc 6 1, 3) := by decide +kernel
theorem dX7_ray_85 : decode cX7_ray 85 = .ok (.iload 8, 2) := by decide +kernel
theorem dX7_ray_87 : decode cX7_ray 87 = .ok (.iload 4, 2) := by decide +kernel
theorem dX7_ray_89 : decode cX7_ray 89 = .ok (.invokestatic 100, 3) := by decide +kernel
theorem dX7_ray_92 : decode cX7_ray 92 = .ok (.istore 8, 2) := by decide +kernel
theorem dX7_ray_94 : decode cX7_ray 94 = .ok (.goto (-43), 3) := by decide +kernel
theorem dX7_ray_97 : decode cX7_ray 97 = .ok (.bipush 16, 2) := by decide +kernel
theorem dX7_ray_99 : decode cX7_ray 99 = .ok (.iload 6, 2) := by decide +kernel
theorem dX7_ray_101 : decode cX7_ray 101 = .ok (.imul, 1) := by decide +kernel
theorem dX7_ray_102 : decode cX7_ray 102 = .ok (.iload 7, 2) := by decide +kernel
theorem dX7_ray_104 : decode cX7_ray 104 = .ok (.iadd, 1) := by decide +kernel
theorem dX7_ray_105 : decode cX7_ray 105 = .ok (.ireturn, 1) := by decide +kernel
theorem dX7_brightest_0 : decode cX7_brightest 0 = .ok (.iload_n 1, 1) := by decide +kernel
theorem dX7_brightest_1 : decode cX7_brightest 1 = .ok (.iconst 0, 1) := by decide +kernel
theorem dX7_brightest_2 : decode cX7_brightest 2 = .ok (.iconst 3, 1) := by decide +kernel
theorem dX7_brightest_3 : decode cX7_brightest 3 = .ok (.invokestatic 57, 3) := by decide +kernel
theorem dX7_brightest_6 : decode cX7_brightest 6 = .ok (.ifCond .ne 5, 3) := by decide +kernel
theorem dX7_brightest_9 : decode cX7_brightest 9 = .ok (.iconst (-1), 1) := by decide +kernel
theorem dX7_brightest_10 : decode cX7_brightest 10 = .ok (.ireturn, 1) := by decide +kernel
theorem dX7_brightest_11 : decode cX7_brightest 11 = .ok (.iconst 0, 1) := by decide +kernel
theorem dX7_brightest_12 : decode cX7_brightest 12 = .ok (.istore_n 2, 1) := by decide +kernel
theorem dX7_brightest_13 : decode cX7_brightest 13 = .ok (.iconst 1, 1) := by decide +kernel
theorem dX7_brightest_14 : decode cX7_brightest 14 = .ok (.istore_n 3, 1) := by decide +kernel
theorem dX7_brightest_15 : decode cX7_brightest 15 = .ok (.iload_n 3, 1) := by decide +kernel
theorem dX7_brightest_16 : decode cX7_brightest 16 = .ok (.sipush 1152, 3) := by decide +kernel
theorem dX7_brightest_19 : decode cX7_brightest 19 = .ok (.if_icmp .ge 30, 3) := by decide +kernel
theorem dX7_brightest_22 : decode cX7_brightest 22 = .ok (.aload_n 0, 1) := by decide +kernel
theorem dX7_brightest_23 : decode cX7_brightest 23 = .ok (.iload_n 3, 1) := by decide +kernel
theorem dX7_brightest_24 : decode cX7_brightest 24 = .ok (.iload_n 1, 1) := by decide +kernel
theorem dX7_brightest_25 : decode cX7_brightest 25 = .ok (.invokevirtual 177, 3) := by decide +kernel
theorem dX7_brightest_28 : decode cX7_brightest 28 = .ok (.aload_n 0, 1) := by decide +kernel
theorem dX7_brightest_29 : decode cX7_brightest 29 = .ok (.iload_n 2, 1) := by decide +kernel
theorem dX7_brightest_30 : decode cX7_brightest 30 = .ok (.iload_n 1, 1) := by decide +kernel
theorem dX7_brightest_31 : decode cX7_brightest 31 = .ok (.invokevirtual 177, 3) := by decide +kernel
theorem dX7_brightest_34 : decode cX7_brightest 34 = .ok (.if_icmp .le 7, 3) := by decide +kernel
theorem dX7_brightest_37 : decode cX7_brightest 37 = .ok (.iload_n 3, 1) := by decide +kernel
theorem dX7_brightest_38 : decode cX7_brightest 38 = .ok (.goto 4, 3) := by decide +kernel
theorem dX7_brightest_41 : decode cX7_brightest 41 = .ok (.iload_n 2, 1) := by decide +kernel
theorem dX7_brightest_42 : decode cX7_brightest 42 = .ok (.istore_n 2, 1) := by decide +kernel
theorem dX7_brightest_43 : decode cX7_brightest 43 = .ok (.iinc 3 1, 3) := by decide +kernel
theorem dX7_brightest_46 : decode cX7_brightest 46 = .ok (.goto (-31), 3) := by decide +kernel
theorem dX7_brightest_49 : decode cX7_brightest 49 = .ok (.aload_n 0, 1) := by decide +kernel
theorem dX7_brightest_50 : decode cX7_brightest 50 = .ok (.iload_n 2, 1) := by decide +kernel
theorem dX7_brightest_51 : decode cX7_brightest 51 = .ok (.iload_n 1, 1) := by decide +kernel
theorem dX7_brightest_52 : decode cX7_brightest 52 = .ok (.invokevirtual 177, 3) := by decide +kernel
theorem dX7_brightest_55 : decode cX7_brightest 55 = .ok (.ifCond .ne 8, 3) := by decide +kernel
theorem dX7_brightest_58 : decode cX7_brightest 58 = .ok (.bipush (-4), 2) := by decide +kernel
theorem dX7_brightest_60 : decode cX7_brightest 60 = .ok (.goto 7, 3) := by decide +kernel
theorem dX7_brightest_63 : decode cX7_brightest 63 = .ok (.iload_n 2, 1) := by decide +kernel
theorem dX7_brightest_64 : decode cX7_brightest 64 = .ok (.invokestatic 192, 3) := by decide +kernel
theorem dX7_brightest_67 : decode cX7_brightest 67 = .ok (.ireturn, 1) := by decide +kernel
theorem dX7_takeRegion_0 : decode cX7_takeRegion 0 = .ok (.iconst 1, 1) := by decide +kernel
theorem dX7_takeRegion_1 : decode cX7_takeRegion 1 = .ok (.istore_n 2, 1) := by decide +kernel
theorem dX7_takeRegion_2 : decode cX7_takeRegion 2 = .ok (.aload_n 0, 1) := by decide +kernel
theorem dX7_takeRegion_3 : decode cX7_takeRegion 3 = .ok (.getfield 51, 3) := by decide +kernel
theorem dX7_takeRegion_6 : decode cX7_takeRegion 6 = .ok (.iconst 0, 1) := by decide +kernel
theorem dX7_takeRegion_7 : decode cX7_takeRegion 7 = .ok (.iload_n 1, 1) := by decide +kernel
theorem dX7_takeRegion_8 : decode cX7_takeRegion 8 = .ok (.iastore, 1) := by decide +kernel
theorem dX7_takeRegion_9 : decode cX7_takeRegion 9 = .ok (.aload_n 0, 1) := by decide +kernel
theorem dX7_takeRegion_10 : decode cX7_takeRegion 10 = .ok (.getfield 48, 3) := by decide +kernel
theorem dX7_takeRegion_13 : decode cX7_takeRegion 13 = .ok (.iload_n 1, 1) := by decide +kernel
theorem dX7_takeRegion_14 : decode cX7_takeRegion 14 = .ok (.iconst 0, 1) := by decide +kernel
theorem dX7_takeRegion_15 : decode cX7_takeRegion 15 = .ok (.bastore, 1) := by decide +kernel
theorem dX7_takeRegion_16 : decode cX7_takeRegion 16 = .ok (.iconst 0, 1) := by decide +kernel
theorem dX7_takeRegion_17 : decode cX7_takeRegion 17 = .ok (.istore_n 3, 1) := by decide +kernel
theorem dX7_takeRegion_18 : decode cX7_takeRegion 18 = .ok (.iload_n 3, 1) := by decide +kernel
theorem dX7_takeRegion_19 : decode cX7_takeRegion 19 = .ok (.iload_n 2, 1) := by decide +kernel
theorem dX7_takeRegion_20 : decode cX7_takeRegion 20 = .ok (.if_icmp .ge 72, 3) := by decide +kernel
theorem dX7_takeRegion_23 : decode cX7_takeRegion 23 = .ok (.iconst 0, 1) := by decide +kernel
theorem dX7_takeRegion_24 : decode cX7_takeRegion 24 = .ok (.istore 4, 2) := by decide +kernel
theorem dX7_takeRegion_26 : decode cX7_takeRegion 26 = .ok (.iload 4, 2) := by decide +kernel
theorem dX7_takeRegion_28 : decode cX7_takeRegion 28 = .ok (.bipush 6, 2) := by decide +kernel
theorem dX7_takeRegion_30 : decode cX7_takeRegion 30 = .ok (.if_icmp .ge 56, 3) := by decide +kernel
theorem dX7_takeRegion_33 : decode cX7_takeRegion 33 = .ok (.aload_n 0, 1) := by decide +kernel
theorem dX7_takeRegion_34 : decode cX7_takeRegion 34 = .ok (.getfield 51, 3) := by decide +kernel
theorem dX7_takeRegion_37 : decode cX7_takeRegion 37 = .ok (.iload_n 3, 1) := by decide +kernel
theorem dX7_takeRegion_38 : decode cX7_takeRegion 38 = .ok (.iaload, 1) := by decide +kernel
theorem dX7_takeRegion_39 : decode cX7_takeRegion 39 = .ok (.iload 4, 2) := by decide +kernel
theorem dX7_takeRegion_41 : decode cX7_takeRegion 41 = .ok (.invokestatic 100, 3) := by decide +kernel
theorem dX7_takeRegion_44 : decode cX7_takeRegion 44 = .ok (.istore 5, 2) := by decide +kernel
theorem dX7_takeRegion_46 : decode cX7_takeRegion 46 = .ok (.iload 5, 2) := by decide +kernel
theorem dX7_takeRegion_48 : decode cX7_takeRegion 48 = .ok (.ifCond .lt 32, 3) := by decide +kernel
theorem dX7_takeRegion_51 : decode cX7_takeRegion 51 = .ok (.aload_n 0, 1) := by decide +kernel
theorem dX7_takeRegion_52 : decode cX7_takeRegion 52 = .ok (.getfield 48, 3) := by decide +kernel
theorem dX7_takeRegion_55 : decode cX7_takeRegion 55 = .ok (.iload 5, 2) := by decide +kernel
theorem dX7_takeRegion_57 : decode cX7_takeRegion 57 = .ok (.baload, 1) := by decide +kernel
theorem dX7_takeRegion_58 : decode cX7_takeRegion 58 = .ok (.ifCond .eq 22, 3) := by decide +kernel
theorem dX7_takeRegion_61 : decode cX7_takeRegion 61 = .ok (.aload_n 0, 1) := by decide +kernel
theorem dX7_takeRegion_62 : decode cX7_takeRegion 62 = .ok (.getfield 48, 3) := by decide +kernel
theorem dX7_takeRegion_65 : decode cX7_takeRegion 65 = .ok (.iload 5, 2) := by decide +kernel
theorem dX7_takeRegion_67 : decode cX7_takeRegion 67 = .ok (.iconst 0, 1) := by decide +kernel
theorem dX7_takeRegion_68 : decode cX7_takeRegion 68 = .ok (.bastore, 1) := by decide +kernel
theorem dX7_takeRegion_69 : decode cX7_takeRegion 69 = .ok (.aload_n 0, 1) := by decide +kernel
theorem dX7_takeRegion_70 : decode cX7_takeRegion 70 = .ok (.getfield 51, 3) := by decide +kernel
theorem dX7_takeRegion_73 : decode cX7_takeRegion 73 = .ok (.iload_n 2, 1) := by decide +kernel
theorem dX7_takeRegion_74 : decode cX7_takeRegion 74 = .ok (.iload 5, 2) := by decide +kernel
theorem dX7_takeRegion_76 : decode cX7_takeRegion 76 = .ok (.iastore, 1) := by decide +kernel
theorem dX7_takeRegion_77 : decode cX7_takeRegion 77 = .ok (.iinc 2 1, 3) := by decide +kernel
theorem dX7_takeRegion_80 : decode cX7_takeRegion 80 = .ok (.iinc 4 1, 3) := by decide +kernel
theorem dX7_takeRegion_83 : decode cX7_takeRegion 83 = .ok (.goto (-57), 3) := by decide +kernel
theorem dX7_takeRegion_86 : decode cX7_takeRegion 86 = .ok (.iinc 3 1, 3) := by decide +kernel
theorem dX7_takeRegion_89 : decode cX7_takeRegion 89 = .ok (.goto (-71), 3) := by decide +kernel
theorem dX7_takeRegion_92 : decode cX7_takeRegion 92 = .ok (.return_, 1) := by decide +kernel
theorem dX7_regions_0 : decode cX7_regions 0 = .ok (.iload_n 1, 1) := by decide +kernel
theorem dX7_regions_1 : decode cX7_regions 1 = .ok (.iconst 1, 1) := by decide +kernel
theorem dX7_regions_2 : decode cX7_regions 2 = .ok (.bipush 15, 2) := by decide +kernel
theorem dX7_regions_4 : decode cX7_regions 4 = .ok (.invokestatic 57, 3) := by decide +kernel
theorem dX7_regions_7 : decode cX7_regions 7 = .ok (.ifCond .ne 6, 3) := by decide +kernel
theorem dX7_regions_10 : decode cX7_regions 10 = .ok (.bipush (-2), 2) := by decide +kernel
theorem dX7_regions_12 : decode cX7_regions 12 = .ok (.ireturn, 1) := by decide +kernel
theorem dX7_regions_13 : decode cX7_regions 13 = .ok (.iconst 0, 1) := by decide +kernel
theorem dX7_regions_14 : decode cX7_regions 14 = .ok (.istore_n 2, 1) := by decide +kernel
theorem dX7_regions_15 : decode cX7_regions 15 = .ok (.iload_n 2, 1) := by decide +kernel
theorem dX7_regions_16 : decode cX7_regions 16 = .ok (.sipush 1152, 3) := by decide +kernel
theorem dX7_regions_19 : decode cX7_regions 19 = .ok (.if_icmp .ge 50, 3) := by decide +kernel
theorem dX7_regions_22 : decode cX7_regions 22 = .ok (.aload_n 0, 1) := by decide +kernel
theorem dX7_regions_23 : decode cX7_regions 23 = .ok (.getfield 48, 3) := by decide +kernel
theorem dX7_regions_26 : decode cX7_regions 26 = .ok (.iload_n 2, 1) := by decide +kernel
theorem dX7_regions_27 : decode cX7_regions 27 = .ok (.aload_n 0, 1) := by decide +kernel
theorem dX7_regions_28 : decode cX7_regions 28 = .ok (.iload_n 2, 1) := by decide +kernel
theorem dX7_regions_29 : decode cX7_regions 29 = .ok (.iconst 0, 1) := by decide +kernel
theorem dX7_regions_30 : decode cX7_regions 30 = .ok (.invokevirtual 177, 3) := by decide +kernel
theorem dX7_regions_33 : decode cX7_regions 33 = .ok (.iload_n 1, 1) := by decide +kernel
theorem dX7_regions_34 : decode cX7_regions 34 = .ok (.if_icmp .ge 23, 3) := by decide +kernel
theorem dX7_regions_37 : decode cX7_regions 37 = .ok (.aload_n 0, 1) := by decide +kernel
theorem dX7_regions_38 : decode cX7_regions 38 = .ok (.iload_n 2, 1) := by decide +kernel
theorem dX7_regions_39 : decode cX7_regions 39 = .ok (.iconst 1, 1) := by decide +kernel
theorem dX7_regions_40 : decode cX7_regions 40 = .ok (.invokevirtual 177, 3) := by decide +kernel
theorem dX7_regions_43 : decode cX7_regions 43 = .ok (.iload_n 1, 1) := by decide +kernel
theorem dX7_regions_44 : decode cX7_regions 44 = .ok (.if_icmp .ge 13, 3) := by decide +kernel
theorem dX7_regions_47 : decode cX7_regions 47 = .ok (.aload_n 0, 1) := by decide +kernel
theorem dX7_regions_48 : decode cX7_regions 48 = .ok (.iload_n 2, 1) := by decide +kernel
theorem dX7_regions_49 : decode cX7_regions 49 = .ok (.iconst 2, 1) := by decide +kernel
theorem dX7_regions_50 : decode cX7_regions 50 = .ok (.invokevirtual 177, 3) := by decide +kernel
theorem dX7_regions_53 : decode cX7_regions 53 = .ok (.iload_n 1, 1) := by decide +kernel
theorem dX7_regions_54 : decode cX7_regions 54 = .ok (.if_icmp .lt 7, 3) := by decide +kernel
theorem dX7_regions_57 : decode cX7_regions 57 = .ok (.iconst 1, 1) := by decide +kernel
theorem dX7_regions_58 : decode cX7_regions 58 = .ok (.goto 4, 3) := by decide +kernel
theorem dX7_regions_61 : decode cX7_regions 61 = .ok (.iconst 0, 1) := by decide +kernel
theorem dX7_regions_62 : decode cX7_regions 62 = .ok (.bastore, 1) := by decide +kernel
theorem dX7_regions_63 : decode cX7_regions 63 = .ok (.iinc 2 1, 3) := by decide +kernel
theorem dX7_regions_66 : decode cX7_regions 66 = .ok (.goto (-51), 3) := by decide +kernel
theorem dX7_regions_69 : decode cX7_regions 69 = .ok (.iconst 0, 1) := by decide +kernel
theorem dX7_regions_70 : decode cX7_regions 70 = .ok (.istore_n 2, 1) := by decide +kernel
theorem dX7_regions_71 : decode cX7_regions 71 = .ok (.iconst 0, 1) := by decide +kernel
theorem dX7_regions_72 : decode cX7_regions 72 = .ok (.istore_n 3, 1) := by decide +kernel
theorem dX7_regions_73 : decode cX7_regions 73 = .ok (.iload_n 3, 1) := by decide +kernel
theorem dX7_regions_74 : decode cX7_regions 74 = .ok (.sipush 1152, 3) := by decide +kernel
theorem dX7_regions_77 : decode cX7_regions 77 = .ok (.if_icmp .ge 26, 3) := by decide +kernel
theorem dX7_regions_80 : decode cX7_regions 80 = .ok (.aload_n 0, 1) := by decide +kernel
theorem dX7_regions_81 : decode cX7_regions 81 = .ok (.getfield 48, 3) := by decide +kernel
theorem dX7_regions_84 : decode cX7_regions 84 = .ok (.iload_n 3, 1) := by decide +kernel
theorem dX7_regions_85 : decode cX7_regions 85 = .ok (.baload, 1) := by decide +kernel
theorem dX7_regions_86 : decode cX7_regions 86 = .ok (.ifCond .eq 11, 3) := by decide +kernel
theorem dX7_regions_89 : decode cX7_regions 89 = .ok (.aload_n 0, 1) := by decide +kernel
theorem dX7_regions_90 : decode cX7_regions 90 = .ok (.iload_n 3, 1) := by decide +kernel
theorem dX7_regions_91 : decode cX7_regions 91 = .ok (.invokevirtual 202, 3) := by decide +kernel
theorem dX7_regions_94 : decode cX7_regions 94 = .ok (.iinc 2 1, 3) := by decide +kernel
theorem dX7_regions_97 : decode cX7_regions 97 = .ok (.iinc 3 1, 3) := by decide +kernel
theorem dX7_regions_100 : decode cX7_regions 100 = .ok (.goto (-27), 3) := by decide +kernel
theorem dX7_regions_103 : decode cX7_regions 103 = .ok (.iload_n 2, 1) := by decide +kernel
theorem dX7_regions_104 : decode cX7_regions 104 = .ok (.ireturn, 1) := by decide +kernel
theorem dX7_isConsistent_0 : decode cX7_isConsistent 0 = .ok (.iconst 1, 1) := by decide +kernel
theorem dX7_isConsistent_1 : decode cX7_isConsistent 1 = .ok (.istore_n 1, 1) := by decide +kernel
theorem dX7_isConsistent_2 : decode cX7_isConsistent 2 = .ok (.iconst 0, 1) := by decide +kernel
theorem dX7_isConsistent_3 : decode cX7_isConsistent 3 = .ok (.istore_n 2, 1) := by decide +kernel
theorem dX7_isConsistent_4 : decode cX7_isConsistent 4 = .ok (.iload_n 2, 1) := by decide +kernel
theorem dX7_isConsistent_5 : decode cX7_isConsistent 5 = .ok (.iconst 4, 1) := by decide +kernel
theorem dX7_isConsistent_6 : decode cX7_isConsistent 6 = .ok (.if_icmp .ge 52, 3) := by decide +kernel
theorem dX7_isConsistent_9 : decode cX7_isConsistent 9 = .ok (.aload_n 0, 1) := by decide +kernel
theorem dX7_isConsistent_10 : decode cX7_isConsistent 10 = .ok (.iload_n 2, 1) := by decide +kernel
theorem dX7_isConsistent_11 : decode cX7_isConsistent 11 = .ok (.invokevirtual 109, 3) := by decide +kernel
theorem dX7_isConsistent_14 : decode cX7_isConsistent 14 = .ok (.iconst 0, 1) := by decide +kernel
theorem dX7_isConsistent_15 : decode cX7_isConsistent 15 = .ok (.istore_n 3, 1) := by decide +kernel
theorem dX7_isConsistent_16 : decode cX7_isConsistent 16 = .ok (.iload_n 3, 1) := by decide +kernel
theorem dX7_isConsistent_17 : decode cX7_isConsistent 17 = .ok (.sipush 1152, 3) := by decide +kernel
theorem dX7_isConsistent_20 : decode cX7_isConsistent 20 = .ok (.if_icmp .ge 32, 3) := by decide +kernel
theorem dX7_isConsistent_23 : decode cX7_isConsistent 23 = .ok (.iload_n 1, 1) := by decide +kernel
theorem dX7_isConsistent_24 : decode cX7_isConsistent 24 = .ok (.aload_n 0, 1) := by decide +kernel
theorem dX7_isConsistent_25 : decode cX7_isConsistent 25 = .ok (.getfield 26, 3) := by decide +kernel
theorem dX7_isConsistent_28 : decode cX7_isConsistent 28 = .ok (.iload_n 3, 1) := by decide +kernel
theorem dX7_isConsistent_29 : decode cX7_isConsistent 29 = .ok (.iaload, 1) := by decide +kernel
theorem dX7_isConsistent_30 : decode cX7_isConsistent 30 = .ok (.aload_n 0, 1) := by decide +kernel
theorem dX7_isConsistent_31 : decode cX7_isConsistent 31 = .ok (.iload_n 3, 1) := by decide +kernel
theorem dX7_isConsistent_32 : decode cX7_isConsistent 32 = .ok (.iload_n 2, 1) := by decide +kernel
theorem dX7_isConsistent_33 : decode cX7_isConsistent 33 = .ok (.invokevirtual 177, 3) := by decide +kernel
theorem dX7_isConsistent_36 : decode cX7_isConsistent 36 = .ok (.if_icmp .ne 7, 3) := by decide +kernel
theorem dX7_isConsistent_39 : decode cX7_isConsistent 39 = .ok (.iconst 1, 1) := by decide +kernel
theorem dX7_isConsistent_40 : decode cX7_isConsistent 40 = .ok (.goto 4, 3) := by decide +kernel
theorem dX7_isConsistent_43 : decode cX7_isConsistent 43 = .ok (.iconst 0, 1) := by decide +kernel
theorem dX7_isConsistent_44 : decode cX7_isConsistent 44 = .ok (.iand, 1) := by decide +kernel
theorem dX7_isConsistent_45 : decode cX7_isConsistent 45 = .ok (.istore_n 1, 1) := by decide +kernel
theorem dX7_isConsistent_46 : decode cX7_isConsistent 46 = .ok (.iinc 3 1, 3) := by decide +kernel
theorem dX7_isConsistent_49 : decode cX7_isConsistent 49 = .ok (.goto (-33), 3) := by decide +kernel
theorem dX7_isConsistent_52 : decode cX7_isConsistent 52 = .ok (.iinc 2 1, 3) := by decide +kernel
theorem dX7_isConsistent_55 : decode cX7_isConsistent 55 = .ok (.goto (-51), 3) := by decide +kernel
theorem dX7_isConsistent_58 : decode cX7_isConsistent 58 = .ok (.iload_n 1, 1) := by decide +kernel
theorem dX7_isConsistent_59 : decode cX7_isConsistent 59 = .ok (.ifCond .eq 7, 3) := by decide +kernel
theorem dX7_isConsistent_62 : decode cX7_isConsistent 62 = .ok (.iconst 1, 1) := by decide +kernel
theorem dX7_isConsistent_63 : decode cX7_isConsistent 63 = .ok (.goto 4, 3) := by decide +kernel
theorem dX7_isConsistent_66 : decode cX7_isConsistent 66 = .ok (.iconst 0, 1) := by decide +kernel
theorem dX7_isConsistent_67 : decode cX7_isConsistent 67 = .ok (.ireturn, 1) := by decide +kernel
theorem dX7_histogram_0 : decode cX7_histogram 0 = .ok (.iload_n 1, 1) := by decide +kernel
theorem dX7_histogram_1 : decode cX7_histogram 1 = .ok (.iconst 0, 1) := by decide +kernel
theorem dX7_histogram_2 : decode cX7_histogram 2 = .ok (.iconst 3, 1) := by decide +kernel
theorem dX7_histogram_3 : decode cX7_histogram 3 = .ok (.invokestatic 57, 3) := by decide +kernel
theorem dX7_histogram_6 : decode cX7_histogram 6 = .ok (.ifCond .ne 5, 3) := by decide +kernel
theorem dX7_histogram_9 : decode cX7_histogram 9 = .ok (.iconst (-1), 1) := by decide +kernel
theorem dX7_histogram_10 : decode cX7_histogram 10 = .ok (.ireturn, 1) := by decide +kernel
theorem dX7_histogram_11 : decode cX7_histogram 11 = .ok (.iload_n 2, 1) := by decide +kernel
theorem dX7_histogram_12 : decode cX7_histogram 12 = .ok (.iconst 0, 1) := by decide +kernel
theorem dX7_histogram_13 : decode cX7_histogram 13 = .ok (.bipush 15, 2) := by decide +kernel
theorem dX7_histogram_15 : decode cX7_histogram 15 = .ok (.invokestatic 57, 3) := by decide +kernel
theorem dX7_histogram_18 : decode cX7_histogram 18 = .ok (.ifCond .ne 6, 3) := by decide +kernel
theorem dX7_histogram_21 : decode cX7_histogram 21 = .ok (.bipush (-2), 2) := by decide +kernel
theorem dX7_histogram_23 : decode cX7_histogram 23 = .ok (.ireturn, 1) := by decide +kernel
theorem dX7_histogram_24 : decode cX7_histogram 24 = .ok (.iconst 0, 1) := by decide +kernel
theorem dX7_histogram_25 : decode cX7_histogram 25 = .ok (.istore_n 3, 1) := by decide +kernel
theorem dX7_histogram_26 : decode cX7_histogram 26 = .ok (.iconst 0, 1) := by decide +kernel
theorem dX7_histogram_27 : decode cX7_histogram 27 = .ok (.istore 4, 2) := by decide +kernel
theorem dX7_histogram_29 : decode cX7_histogram 29 = .ok (.iload 4, 2) := by decide +kernel
theorem dX7_histogram_31 : decode cX7_histogram 31 = .ok (.sipush 1152, 3) := by decide +kernel
theorem dX7_histogram_34 : decode cX7_histogram 34 = .ok (.if_icmp .ge 28, 3) := by decide +kernel
theorem dX7_histogram_37 : decode cX7_histogram 37 = .ok (.iload_n 3, 1) := by decide +kernel
theorem dX7_histogram_38 : decode cX7_histogram 38 = .ok (.aload_n 0, 1) := by decide +kernel
theorem dX7_histogram_39 : decode cX7_histogram 39 = .ok (.iload 4, 2) := by decide +kernel
theorem dX7_histogram_41 : decode cX7_histogram 41 = .ok (.iload_n 1, 1) := by decide +kernel
theorem dX7_histogram_42 : decode cX7_histogram 42 = .ok (.invokevirtual 177, 3) := by decide +kernel
theorem dX7_histogram_45 : decode cX7_histogram 45 = .ok (.iload_n 2, 1) := by decide +kernel
theorem dX7_histogram_46 : decode cX7_histogram 46 = .ok (.if_icmp .ne 7, 3) := by decide +kernel
theorem dX7_histogram_49 : decode cX7_histogram 49 = .ok (.iconst 1, 1) := by decide +kernel
theorem dX7_histogram_50 : decode cX7_histogram 50 = .ok (.goto 4, 3) := by decide +kernel
theorem dX7_histogram_53 : decode cX7_histogram 53 = .ok (.iconst 0, 1) := by decide +kernel
theorem dX7_histogram_54 : decode cX7_histogram 54 = .ok (.iadd, 1) := by decide +kernel
theorem dX7_histogram_55 : decode cX7_histogram 55 = .ok (.istore_n 3, 1) := by decide +kernel
theorem dX7_histogram_56 : decode cX7_histogram 56 = .ok (.iinc 4 1, 3) := by decide +kernel
theorem dX7_histogram_59 : decode cX7_histogram 59 = .ok (.goto (-30), 3) := by decide +kernel
theorem dX7_histogram_62 : decode cX7_histogram 62 = .ok (.iload_n 3, 1) := by decide +kernel
theorem dX7_histogram_63 : decode cX7_histogram 63 = .ok (.ireturn, 1) := by decide +kernel
theorem dX7_checksum_0 : decode cX7_checksum 0 = .ok (.ldc2_w 205, 3) := by decide +kernel
theorem dX7_checksum_3 : decode cX7_checksum 3 = .ok (.lstore_n 1, 1) := by decide +kernel
theorem dX7_checksum_4 : decode cX7_checksum 4 = .ok (.iconst 0, 1) := by decide +kernel
theorem dX7_checksum_5 : decode cX7_checksum 5 = .ok (.istore_n 3, 1) := by decide +kernel
theorem dX7_checksum_6 : decode cX7_checksum 6 = .ok (.iload_n 3, 1) := by decide +kernel
theorem dX7_checksum_7 : decode cX7_checksum 7 = .ok (.sipush 1152, 3) := by decide +kernel
theorem dX7_checksum_10 : decode cX7_checksum 10 = .ok (.if_icmp .ge 34, 3) := by decide +kernel
theorem dX7_checksum_13 : decode cX7_checksum 13 = .ok (.ldc2_w 207, 3) := by decide +kernel
theorem dX7_checksum_16 : decode cX7_checksum 16 = .ok (.lload_n 1, 1) := by decide +kernel
theorem dX7_checksum_17 : decode cX7_checksum 17 = .ok (.lmul, 1) := by decide +kernel
theorem dX7_checksum_18 : decode cX7_checksum 18 = .ok (.aload_n 0, 1) := by decide +kernel
theorem dX7_checksum_19 : decode cX7_checksum 19 = .ok (.getfield 9, 3) := by decide +kernel
theorem dX7_checksum_22 : decode cX7_checksum 22 = .ok (.iload_n 3, 1) := by decide +kernel
theorem dX7_checksum_23 : decode cX7_checksum 23 = .ok (.iaload, 1) := by decide +kernel
theorem dX7_checksum_24 : decode cX7_checksum 24 = .ok (.i2l, 1) := by decide +kernel
theorem dX7_checksum_25 : decode cX7_checksum 25 = .ok (.ladd, 1) := by decide +kernel
theorem dX7_checksum_26 : decode cX7_checksum 26 = .ok (.ldc2_w 209, 3) := by decide +kernel
theorem dX7_checksum_29 : decode cX7_checksum 29 = .ok (.aload_n 0, 1) := by decide +kernel
theorem dX7_checksum_30 : decode cX7_checksum 30 = .ok (.iload_n 3, 1) := by decide +kernel
theorem dX7_checksum_31 : decode cX7_checksum 31 = .ok (.invokevirtual 180, 3) := by decide +kernel
theorem dX7_checksum_34 : decode cX7_checksum 34 = .ok (.i2l, 1) := by decide +kernel
theorem dX7_checksum_35 : decode cX7_checksum 35 = .ok (.lmul, 1) := by decide +kernel
theorem dX7_checksum_36 : decode cX7_checksum 36 = .ok (.ladd, 1) := by decide +kernel
theorem dX7_checksum_37 : decode cX7_checksum 37 = .ok (.lstore_n 1, 1) := by decide +kernel
theorem dX7_checksum_38 : decode cX7_checksum 38 = .ok (.iinc 3 1, 3) := by decide +kernel
theorem dX7_checksum_41 : decode cX7_checksum 41 = .ok (.goto (-35), 3) := by decide +kernel
theorem dX7_checksum_44 : decode cX7_checksum 44 = .ok (.lload_n 1, 1) := by decide +kernel
theorem dX7_checksum_45 : decode cX7_checksum 45 = .ok (.lreturn, 1) := by decide +kernel
theorem dX7_blocks_0 : decode cX7_blocks 0 = .ok (.iconst 0, 1) := by decide +kernel
theorem dX7_blocks_1 : decode cX7_blocks 1 = .ok (.istore_n 1, 1) := by decide +kernel
theorem dX7_blocks_2 : decode cX7_blocks 2 = .ok (.iconst 0, 1) := by decide +kernel
theorem dX7_blocks_3 : decode cX7_blocks 3 = .ok (.istore_n 2, 1) := by decide +kernel
theorem dX7_blocks_4 : decode cX7_blocks 4 = .ok (.iload_n 2, 1) := by decide +kernel
theorem dX7_blocks_5 : decode cX7_blocks 5 = .ok (.sipush 1152, 3) := by decide +kernel
theorem dX7_blocks_8 : decode cX7_blocks 8 = .ok (.if_icmp .ge 26, 3) := by decide +kernel
theorem dX7_blocks_11 : decode cX7_blocks 11 = .ok (.iload_n 1, 1) := by decide +kernel
theorem dX7_blocks_12 : decode cX7_blocks 12 = .ok (.aload_n 0, 1) := by decide +kernel
theorem dX7_blocks_13 : decode cX7_blocks 13 = .ok (.getfield 9, 3) := by decide +kernel
theorem dX7_blocks_16 : decode cX7_blocks 16 = .ok (.iload_n 2, 1) := by decide +kernel
theorem dX7_blocks_17 : decode cX7_blocks 17 = .ok (.iaload, 1) := by decide +kernel
theorem dX7_blocks_18 : decode cX7_blocks 18 = .ok (.ifCond .ne 7, 3) := by decide +kernel
theorem dX7_blocks_21 : decode cX7_blocks 21 = .ok (.iconst 0, 1) := by decide +kernel
theorem dX7_blocks_22 : decode cX7_blocks 22 = .ok (.goto 4, 3) := by decide +kernel
theorem dX7_blocks_25 : decode cX7_blocks 25 = .ok (.iconst 1, 1) := by decide +kernel
theorem dX7_blocks_26 : decode cX7_blocks 26 = .ok (.iadd, 1) := by decide +kernel
theorem dX7_blocks_27 : decode cX7_blocks 27 = .ok (.istore_n 1, 1) := by decide +kernel
theorem dX7_blocks_28 : decode cX7_blocks 28 = .ok (.iinc 2 1, 3) := by decide +kernel
theorem dX7_blocks_31 : decode cX7_blocks 31 = .ok (.goto (-27), 3) := by decide +kernel
theorem dX7_blocks_34 : decode cX7_blocks 34 = .ok (.iload_n 1, 1) := by decide +kernel
theorem dX7_blocks_35 : decode cX7_blocks 35 = .ok (.ireturn, 1) := by decide +kernel
theorem dX7_save_0 : decode cX7_save 0 = .ok (.aload_n 0, 1) := by decide +kernel
theorem dX7_save_1 : decode cX7_save 1 = .ok (.getfield 127, 3) := by decide +kernel
theorem dX7_save_4 : decode cX7_save 4 = .ok (.ifCond .eq 6, 3) := by decide +kernel
theorem dX7_save_7 : decode cX7_save 7 = .ok (.bipush (-5), 2) := by decide +kernel
theorem dX7_save_9 : decode cX7_save 9 = .ok (.ireturn, 1) := by decide +kernel
theorem dX7_save_10 : decode cX7_save 10 = .ok (.iconst 0, 1) := by decide +kernel
theorem dX7_save_11 : decode cX7_save 11 = .ok (.istore_n 1, 1) := by decide +kernel
theorem dX7_save_12 : decode cX7_save 12 = .ok (.iload_n 1, 1) := by decide +kernel
theorem dX7_save_13 : decode cX7_save 13 = .ok (.sipush 1216, 3) := by decide +kernel
theorem dX7_save_16 : decode cX7_save 16 = .ok (.if_icmp .ge 21, 3) := by decide +kernel
theorem dX7_save_19 : decode cX7_save 19 = .ok (.aload_n 0, 1) := by decide +kernel
theorem dX7_save_20 : decode cX7_save 20 = .ok (.getfield 13, 3) := by decide +kernel
theorem dX7_save_23 : decode cX7_save 23 = .ok (.iload_n 1, 1) := by decide +kernel
theorem dX7_save_24 : decode cX7_save 24 = .ok (.aload_n 0, 1) := by decide +kernel
theorem dX7_save_25 : decode cX7_save 25 = .ok (.getfield 9, 3) := by decide +kernel
theorem dX7_save_28 : decode cX7_save 28 = .ok (.iload_n 1, 1) := by decide +kernel
theorem dX7_save_29 : decode cX7_save 29 = .ok (.iaload, 1) := by decide +kernel
theorem dX7_save_30 : decode cX7_save 30 = .ok (.iastore, 1) := by decide +kernel
theorem dX7_save_31 : decode cX7_save 31 = .ok (.iinc 1 1, 3) := by decide +kernel
theorem dX7_save_34 : decode cX7_save 34 = .ok (.goto (-22), 3) := by decide +kernel
theorem dX7_save_37 : decode cX7_save 37 = .ok (.aload_n 0, 1) := by decide +kernel
theorem dX7_save_38 : decode cX7_save 38 = .ok (.iconst 1, 1) := by decide +kernel
theorem dX7_save_39 : decode cX7_save 39 = .ok (.putfield 211, 3) := by decide +kernel
theorem dX7_save_42 : decode cX7_save 42 = .ok (.aload_n 0, 1) := by decide +kernel
theorem dX7_save_43 : decode cX7_save 43 = .ok (.invokevirtual 214, 3) := by decide +kernel
theorem dX7_save_46 : decode cX7_save 46 = .ok (.ireturn, 1) := by decide +kernel
theorem dX7_restore_0 : decode cX7_restore 0 = .ok (.aload_n 0, 1) := by decide +kernel
theorem dX7_restore_1 : decode cX7_restore 1 = .ok (.getfield 127, 3) := by decide +kernel
theorem dX7_restore_4 : decode cX7_restore 4 = .ok (.ifCond .eq 6, 3) := by decide +kernel
theorem dX7_restore_7 : decode cX7_restore 7 = .ok (.bipush (-5), 2) := by decide +kernel
theorem dX7_restore_9 : decode cX7_restore 9 = .ok (.ireturn, 1) := by decide +kernel
theorem dX7_restore_10 : decode cX7_restore 10 = .ok (.aload_n 0, 1) := by decide +kernel
theorem dX7_restore_11 : decode cX7_restore 11 = .ok (.getfield 211, 3) := by decide +kernel
theorem dX7_restore_14 : decode cX7_restore 14 = .ok (.ifCond .ne 6, 3) := by decide +kernel
theorem dX7_restore_17 : decode cX7_restore 17 = .ok (.bipush (-4), 2) := by decide +kernel
theorem dX7_restore_19 : decode cX7_restore 19 = .ok (.ireturn, 1) := by decide +kernel
theorem dX7_restore_20 : decode cX7_restore 20 = .ok (.iconst 0, 1) := by decide +kernel
theorem dX7_restore_21 : decode cX7_restore 21 = .ok (.istore_n 1, 1) := by decide +kernel
theorem dX7_restore_22 : decode cX7_restore 22 = .ok (.iload_n 1, 1) := by decide +kernel
theorem dX7_restore_23 : decode cX7_restore 23 = .ok (.sipush 1216, 3) := by decide +kernel
theorem dX7_restore_26 : decode cX7_restore 26 = .ok (.if_icmp .ge 21, 3) := by decide +kernel
theorem dX7_restore_29 : decode cX7_restore 29 = .ok (.aload_n 0, 1) := by decide +kernel
theorem dX7_restore_30 : decode cX7_restore 30 = .ok (.getfield 9, 3) := by decide +kernel
theorem dX7_restore_33 : decode cX7_restore 33 = .ok (.iload_n 1, 1) := by decide +kernel
theorem dX7_restore_34 : decode cX7_restore 34 = .ok (.aload_n 0, 1) := by decide +kernel
theorem dX7_restore_35 : decode cX7_restore 35 = .ok (.getfield 13, 3) := by decide +kernel
theorem dX7_restore_38 : decode cX7_restore 38 = .ok (.iload_n 1, 1) := by decide +kernel
theorem dX7_restore_39 : decode cX7_restore 39 = .ok (.iaload, 1) := by decide +kernel
theorem dX7_restore_40 : decode cX7_restore 40 = .ok (.iastore, 1) := by decide +kernel
theorem dX7_restore_41 : decode cX7_restore 41 = .ok (.iinc 1 1, 3) := by decide +kernel
theorem dX7_restore_44 : decode cX7_restore 44 = .ok (.goto (-22), 3) := by decide +kernel
theorem dX7_restore_47 : decode cX7_restore 47 = .ok (.aload_n 0, 1) := by decide +kernel
theorem dX7_restore_48 : decode cX7_restore 48 = .ok (.iconst 0, 1) := by decide +kernel
theorem dX7_restore_49 : decode cX7_restore 49 = .ok (.putfield 113, 3) := by decide +kernel
theorem dX7_restore_52 : decode cX7_restore 52 = .ok (.aload_n 0, 1) := by decide +kernel
theorem dX7_restore_53 : decode cX7_restore 53 = .ok (.invokevirtual 54, 3) := by decide +kernel
theorem dX7_restore_56 : decode cX7_restore 56 = .ok (.iconst 0, 1) := by decide +kernel
theorem dX7_restore_57 : decode cX7_restore 57 = .ok (.istore_n 1, 1) := by decide +kernel
theorem dX7_restore_58 : decode cX7_restore 58 = .ok (.iload_n 1, 1) := by decide +kernel
theorem dX7_restore_59 : decode cX7_restore 59 = .ok (.sipush 1152, 3) := by decide +kernel
theorem dX7_restore_62 : decode cX7_restore 62 = .ok (.if_icmp .ge 16, 3) := by decide +kernel
theorem dX7_restore_65 : decode cX7_restore 65 = .ok (.aload_n 0, 1) := by decide +kernel
theorem dX7_restore_66 : decode cX7_restore 66 = .ok (.getfield 22, 3) := by decide +kernel
theorem dX7_restore_69 : decode cX7_restore 69 = .ok (.iload_n 1, 1) := by decide +kernel
theorem dX7_restore_70 : decode cX7_restore 70 = .ok (.iconst 0, 1) := by decide +kernel
theorem dX7_restore_71 : decode cX7_restore 71 = .ok (.bastore, 1) := by decide +kernel
theorem dX7_restore_72 : decode cX7_restore 72 = .ok (.iinc 1 1, 3) := by decide +kernel
theorem dX7_restore_75 : decode cX7_restore 75 = .ok (.goto (-17), 3) := by decide +kernel
theorem dX7_restore_78 : decode cX7_restore 78 = .ok (.aload_n 0, 1) := by decide +kernel
theorem dX7_restore_79 : decode cX7_restore 79 = .ok (.invokevirtual 214, 3) := by decide +kernel
theorem dX7_restore_82 : decode cX7_restore 82 = .ok (.ireturn, 1) := by decide +kernel
theorem dL_law_0 : decode cL_law 0 = .ok (.new 7, 3) := by decide +kernel
theorem dL_law_3 : decode cL_law 3 = .ok (.dup, 1) := by decide +kernel
theorem dL_law_4 : decode cL_law 4 = .ok (.invokespecial 9, 3) := by decide +kernel
theorem dL_law_7 : decode cL_law 7 = .ok (.astore_n 1, 1) := by decide +kernel
theorem dL_law_8 : decode cL_law 8 = .ok (.new 10, 3) := by decide +kernel
theorem dL_law_11 : decode cL_law 11 = .ok (.dup, 1) := by decide +kernel
theorem dL_law_12 : decode cL_law 12 = .ok (.invokespecial 12, 3) := by decide +kernel
theorem dL_law_15 : decode cL_law 15 = .ok (.astore_n 2, 1) := by decide +kernel
theorem dL_law_16 : decode cL_law 16 = .ok (.iconst 0, 1) := by decide +kernel
theorem dL_law_17 : decode cL_law 17 = .ok (.istore_n 3, 1) := by decide +kernel
theorem dL_law_18 : decode cL_law 18 = .ok (.iload_n 3, 1) := by decide +kernel
theorem dL_law_19 : decode cL_law 19 = .ok (.aload_n 0, 1) := by decide +kernel
theorem dL_law_20 : decode cL_law 20 = .ok (.arraylength, 1) := by decide +kernel
theorem dL_law_21 : decode cL_law 21 = .ok (.bipush 7, 2) := by decide +kernel
theorem dL_law_23 : decode cL_law 23 = .ok (.isub, 1) := by decide +kernel
theorem dL_law_24 : decode cL_law 24 = .ok (.if_icmp .gt 1412, 3) := by decide +kernel
theorem dL_law_27 : decode cL_law 27 = .ok (.aload_n 0, 1) := by decide +kernel
theorem dL_law_28 : decode cL_law 28 = .ok (.iload_n 3, 1) := by decide +kernel
theorem dL_law_29 : decode cL_law 29 = .ok (.iaload, 1) := by decide +kernel
theorem dL_law_30 : decode cL_law 30 = .ok (.bipush 63, 2) := by decide +kernel
theorem dL_law_32 : decode cL_law 32 = .ok (.iand, 1) := by decide +kernel
theorem dL_law_33 : decode cL_law 33 = .ok (.tableswitch 1397 0 36 #[163, 216, 229, 242, 255, 330, 373, 416, 439, 452, 465, 478, 521, 554, 587, 640, 683, 736, 789, 842, 855, 878, 891, 954, 1007, 1070, 1103, 1146, 1169, 1202, 1265, 1288, 1311, 1324, 1357, 1371, 1384], 163) := by decide +kernel
theorem dL_law_196 : decode cL_law 196 = .ok (.aload_n 1, 1) := by decide +kernel
theorem dL_law_197 : decode cL_law 197 = .ok (.aload_n 0, 1) := by decide +kernel
theorem dL_law_198 : decode cL_law 198 = .ok (.iload_n 3, 1) := by decide +kernel
theorem dL_law_199 : decode cL_law 199 = .ok (.iconst 1, 1) := by decide +kernel
theorem dL_law_200 : decode cL_law 200 = .ok (.iadd, 1) := by decide +kernel
theorem dL_law_201 : decode cL_law 201 = .ok (.iaload, 1) := by decide +kernel
theorem dL_law_202 : decode cL_law 202 = .ok (.aload_n 0, 1) := by decide +kernel
theorem dL_law_203 : decode cL_law 203 = .ok (.iload_n 3, 1) := by decide +kernel
theorem dL_law_204 : decode cL_law 204 = .ok (.iconst 2, 1) := by decide +kernel
theorem dL_law_205 : decode cL_law 205 = .ok (.iadd, 1) := by decide +kernel
theorem dL_law_206 : decode cL_law 206 = .ok (.iaload, 1) := by decide +kernel
theorem dL_law_207 : decode cL_law 207 = .ok (.aload_n 0, 1) := by decide +kernel
theorem dL_law_208 : decode cL_law 208 = .ok (.iload_n 3, 1) := by decide +kernel
theorem dL_law_209 : decode cL_law 209 = .ok (.iconst 3, 1) := by decide +kernel
theorem dL_law_210 : decode cL_law 210 = .ok (.iadd, 1) := by decide +kernel
theorem dL_law_211 : decode cL_law 211 = .ok (.iaload, 1) := by decide +kernel
theorem dL_law_212 : decode cL_law 212 = .ok (.aload_n 0, 1) := by decide +kernel
theorem dL_law_213 : decode cL_law 213 = .ok (.iload_n 3, 1) := by decide +kernel
theorem dL_law_214 : decode cL_law 214 = .ok (.iconst 4, 1) := by decide +kernel
theorem dL_law_215 : decode cL_law 215 = .ok (.iadd, 1) := by decide +kernel
theorem dL_law_216 : decode cL_law 216 = .ok (.iaload, 1) := by decide +kernel
theorem dL_law_217 : decode cL_law 217 = .ok (.invokevirtual 13, 3) := by decide +kernel
theorem dL_law_220 : decode cL_law 220 = .ok (.aload_n 2, 1) := by decide +kernel
theorem dL_law_221 : decode cL_law 221 = .ok (.aload_n 0, 1) := by decide +kernel
theorem dL_law_222 : decode cL_law 222 = .ok (.iload_n 3, 1) := by decide +kernel
theorem dL_law_223 : decode cL_law 223 = .ok (.iconst 1, 1) := by decide +kernel
theorem dL_law_224 : decode cL_law 224 = .ok (.iadd, 1) := by decide +kernel
theorem dL_law_225 : decode cL_law 225 = .ok (.iaload, 1) := by decide +kernel
theorem dL_law_226 : decode cL_law 226 = .ok (.aload_n 0, 1) := by decide +kernel
theorem dL_law_227 : decode cL_law 227 = .ok (.iload_n 3, 1) := by decide +kernel
theorem dL_law_228 : decode cL_law 228 = .ok (.iconst 2, 1) := by decide +kernel
theorem dL_law_229 : decode cL_law 229 = .ok (.iadd, 1) := by decide +kernel
theorem dL_law_230 : decode cL_law 230 = .ok (.iaload, 1) := by decide +kernel
theorem dL_law_231 : decode cL_law 231 = .ok (.aload_n 0, 1) := by decide +kernel
theorem dL_law_232 : decode cL_law 232 = .ok (.iload_n 3, 1) := by decide +kernel
theorem dL_law_233 : decode cL_law 233 = .ok (.iconst 3, 1) := by decide +kernel
theorem dL_law_234 : decode cL_law 234 = .ok (.iadd, 1) := by decide +kernel
theorem dL_law_235 : decode cL_law 235 = .ok (.iaload, 1) := by decide +kernel
theorem dL_law_236 : decode cL_law 236 = .ok (.aload_n 0, 1) := by decide +kernel
theorem dL_law_237 : decode cL_law 237 = .ok (.iload_n 3, 1) := by decide +kernel
theorem dL_law_238 : decode cL_law 238 = .ok (.iconst 4, 1) := by decide +kernel
theorem dL_law_239 : decode cL_law 239 = .ok (.iadd, 1) := by decide +kernel
theorem dL_law_240 : decode cL_law 240 = .ok (.iaload, 1) := by decide +kernel
theorem dL_law_241 : decode cL_law 241 = .ok (.invokevirtual 17, 3) := by decide +kernel
theorem dL_law_244 : decode cL_law 244 = .ok (.if_icmp .eq 1186, 3) := by decide +kernel
theorem dL_law_247 : decode cL_law 247 = .ok (.iconst 0, 1) := by decide +kernel
theorem dL_law_248 : decode cL_law 248 = .ok (.ireturn, 1) := by decide +kernel
theorem dL_law_249 : decode cL_law 249 = .ok (.aload_n 1, 1) := by decide +kernel
theorem dL_law_250 : decode cL_law 250 = .ok (.invokevirtual 18, 3) := by decide +kernel
theorem dL_law_253 : decode cL_law 253 = .ok (.aload_n 2, 1) := by decide +kernel
theorem dL_law_254 : decode cL_law 254 = .ok (.invokevirtual 22, 3) := by decide +kernel
theorem dL_law_257 : decode cL_law 257 = .ok (.if_icmp .eq 1173, 3) := by decide +kernel
theorem dL_law_260 : decode cL_law 260 = .ok (.iconst 0, 1) := by decide +kernel
theorem dL_law_261 : decode cL_law 261 = .ok (.ireturn, 1) := by decide +kernel
theorem dL_law_262 : decode cL_law 262 = .ok (.aload_n 1, 1) := by decide +kernel
theorem dL_law_263 : decode cL_law 263 = .ok (.invokevirtual 23, 3) := by decide +kernel
theorem dL_law_266 : decode cL_law 266 = .ok (.aload_n 2, 1) := by decide +kernel
theorem dL_law_267 : decode cL_law 267 = .ok (.invokevirtual 26, 3) := by decide +kernel
theorem dL_law_270 : decode cL_law 270 = .ok (.if_icmp .eq 1160, 3) := by decide +kernel
theorem dL_law_273 : decode cL_law 273 = .ok (.iconst 0, 1) := by decide +kernel
theorem dL_law_274 : decode cL_law 274 = .ok (.ireturn, 1) := by decide +kernel
theorem dL_law_275 : decode cL_law 275 = .ok (.aload_n 1, 1) := by decide +kernel
theorem dL_law_276 : decode cL_law 276 = .ok (.invokevirtual 27, 3) := by decide +kernel
theorem dL_law_279 : decode cL_law 279 = .ok (.aload_n 2, 1) := by decide +kernel
theorem dL_law_280 : decode cL_law 280 = .ok (.invokevirtual 30, 3) := by decide +kernel
theorem dL_law_283 : decode cL_law 283 = .ok (.if_icmp .eq 1147, 3) := by decide +kernel
theorem dL_law_286 : decode cL_law 286 = .ok (.iconst 0, 1) := by decide +kernel
theorem dL_law_287 : decode cL_law 287 = .ok (.ireturn, 1) := by decide +kernel
theorem dL_law_288 : decode cL_law 288 = .ok (.aload_n 1, 1) := by decide +kernel
theorem dL_law_289 : decode cL_law 289 = .ok (.aload_n 0, 1) := by decide +kernel
theorem dL_law_290 : decode cL_law 290 = .ok (.iload_n 3, 1) := by decide +kernel
theorem dL_law_291 : decode cL_law 291 = .ok (.iconst 1, 1) := by decide +kernel
theorem dL_law_292 : decode cL_law 292 = .ok (.iadd, 1) := by decide +kernel
theorem dL_law_293 : decode cL_law 293 = .ok (.iaload, 1) := by decide +kernel
theorem dL_law_294 : decode cL_law 294 = .ok (.aload_n 0, 1) := by decide +kernel
theorem dL_law_295 : decode cL_law 295 = .ok (.iload_n 3, 1) := by decide +kernel
theorem dL_law_296 : decode cL_law 296 = .ok (.iconst 2, 1) := by decide +kernel
theorem dL_law_297 : decode cL_law 297 = .ok (.iadd, 1) := by decide +kernel
theorem dL_law_298 : decode cL_law 298 = .ok (.iaload, 1) := by decide +kernel
theorem dL_law_299 : decode cL_law 299 = .ok (.aload_n 0, 1) := by decide +kernel
theorem dL_law_300 : decode cL_law 300 = .ok (.iload_n 3, 1) := by decide +kernel
theorem dL_law_301 : decode cL_law 301 = .ok (.iconst 3, 1) := by decide +kernel
theorem dL_law_302 : decode cL_law 302 = .ok (.iadd, 1) := by decide +kernel
theorem dL_law_303 : decode cL_law 303 = .ok (.iaload, 1) := by decide +kernel
theorem dL_law_304 : decode cL_law 304 = .ok (.aload_n 0, 1) := by decide +kernel
theorem dL_law_305 : decode cL_law 305 = .ok (.iload_n 3, 1) := by decide +kernel
theorem dL_law_306 : decode cL_law 306 = .ok (.iconst 4, 1) := by decide +kernel
theorem dL_law_307 : decode cL_law 307 = .ok (.iadd, 1) := by decide +kernel
theorem dL_law_308 : decode cL_law 308 = .ok (.iaload, 1) := by decide +kernel
theorem dL_law_309 : decode cL_law 309 = .ok (.aload_n 0, 1) := by decide +kernel
theorem dL_law_310 : decode cL_law 310 = .ok (.iload_n 3, 1) := by decide +kernel
theorem dL_law_311 : decode cL_law 311 = .ok (.iconst 5, 1) := by decide +kernel
theorem dL_law_312 : decode cL_law 312 = .ok (.iadd, 1) := by decide +kernel
theorem dL_law_313 : decode cL_law 313 = .ok (.iaload, 1) := by decide +kernel
theorem dL_law_314 : decode cL_law 314 = .ok (.aload_n 0, 1) := by decide +kernel
theorem dL_law_315 : decode cL_law 315 = .ok (.iload_n 3, 1) := by decide +kernel
theorem dL_law_316 : decode cL_law 316 = .ok (.bipush 6, 2) := by decide +kernel
theorem dL_law_318 : decode cL_law 318 = .ok (.iadd, 1) := by decide +kernel
theorem dL_law_319 : decode cL_law 319 = .ok (.iaload, 1) := by decide +kernel
theorem dL_law_320 : decode cL_law 320 = .ok (.invokevirtual 31, 3) := by decide +kernel
theorem dL_law_323 : decode cL_law 323 = .ok (.aload_n 2, 1) := by decide +kernel
theorem dL_law_324 : decode cL_law 324 = .ok (.aload_n 0, 1) := by decide +kernel
theorem dL_law_325 : decode cL_law 325 = .ok (.iload_n 3, 1) := by decide +kernel
theorem dL_law_326 : decode cL_law 326 = .ok (.iconst 1, 1) := by decide +kernel
theorem dL_law_327 : decode cL_law 327 = .ok (.iadd, 1) := by decide +kernel
theorem dL_law_328 : decode cL_law 328 = .ok (.iaload, 1) := by decide +kernel
theorem dL_law_329 : decode cL_law 329 = .ok (.aload_n 0, 1) := by decide +kernel
theorem dL_law_330 : decode cL_law 330 = .ok (.iload_n 3, 1) := by decide +kernel
theorem dL_law_331 : decode cL_law 331 = .ok (.iconst 2, 1) := by decide +kernel
theorem dL_law_332 : decode cL_law 332 = .ok (.iadd, 1) := by decide +kernel
theorem dL_law_333 : decode cL_law 333 = .ok (.iaload, 1) := by decide +kernel
theorem dL_law_334 : decode cL_law 334 = .ok (.aload_n 0, 1) := by decide +kernel
theorem dL_law_335 : decode cL_law 335 = .ok (.iload_n 3, 1) := by decide +kernel
theorem dL_law_336 : decode cL_law 336 = .ok (.iconst 3, 1) := by decide +kernel
theorem dL_law_337 : decode cL_law 337 = .ok (.iadd, 1) := by decide +kernel
theorem dL_law_338 : decode cL_law 338 = .ok (.iaload, 1) := by decide +kernel
theorem dL_law_339 : decode cL_law 339 = .ok (.aload_n 0, 1) := by decide +kernel
theorem dL_law_340 : decode cL_law 340 = .ok (.iload_n 3, 1) := by decide +kernel
theorem dL_law_341 : decode cL_law 341 = .ok (.iconst 4, 1) := by decide +kernel
theorem dL_law_342 : decode cL_law 342 = .ok (.iadd, 1) := by decide +kernel
theorem dL_law_343 : decode cL_law 343 = .ok (.iaload, 1) := by decide +kernel
theorem dL_law_344 : decode cL_law 344 = .ok (.aload_n 0, 1) := by decide +kernel
theorem dL_law_345 : decode cL_law 345 = .ok (.iload_n 3, 1) := by decide +kernel
theorem dL_law_346 : decode cL_law 346 = .ok (.iconst 5, 1) := by decide +kernel
theorem dL_law_347 : decode cL_law 347 = .ok (.iadd, 1) := by decide +kernel
theorem dL_law_348 : decode cL_law 348 = .ok (.iaload, 1) := by decide +kernel
theorem dL_law_349 : decode cL_law 349 = .ok (.aload_n 0, 1) := by decide +kernel
theorem dL_law_350 : decode cL_law 350 = .ok (.iload_n 3, 1) := by decide +kernel
theorem dL_law_351 : decode cL_law 351 = .ok (.bipush 6, 2) := by decide +kernel
theorem dL_law_353 : decode cL_law 353 = .ok (.iadd, 1) := by decide +kernel
theorem dL_law_354 : decode cL_law 354 = .ok (.iaload, 1) := by decide +kernel
theorem dL_law_355 : decode cL_law 355 = .ok (.invokevirtual 35, 3) := by decide +kernel
theorem dL_law_358 : decode cL_law 358 = .ok (.if_icmp .eq 1072, 3) := by decide +kernel
theorem dL_law_361 : decode cL_law 361 = .ok (.iconst 0, 1) := by decide +kernel
theorem dL_law_362 : decode cL_law 362 = .ok (.ireturn, 1) := by decide +kernel
theorem dL_law_363 : decode cL_law 363 = .ok (.aload_n 1, 1) := by decide +kernel
theorem dL_law_364 : decode cL_law 364 = .ok (.aload_n 0, 1) := by decide +kernel
theorem dL_law_365 : decode cL_law 365 = .ok (.iload_n 3, 1) := by decide +kernel
theorem dL_law_366 : decode cL_law 366 = .ok (.iconst 1, 1) := by decide +kernel
theorem dL_law_367 : decode cL_law 367 = .ok (.iadd, 1) := by decide +kernel
theorem dL_law_368 : decode cL_law 368 = .ok (.iaload, 1) := by decide +kernel
theorem dL_law_369 : decode cL_law 369 = .ok (.aload_n 0, 1) := by decide +kernel
theorem dL_law_370 : decode cL_law 370 = .ok (.iload_n 3, 1) := by decide +kernel
theorem dL_law_371 : decode cL_law 371 = .ok (.iconst 2, 1) := by decide +kernel
theorem dL_law_372 : decode cL_law 372 = .ok (.iadd, 1) := by decide +kernel
theorem dL_law_373 : decode cL_law 373 = .ok (.iaload, 1) := by decide +kernel
theorem dL_law_374 : decode cL_law 374 = .ok (.aload_n 0, 1) := by decide +kernel
theorem dL_law_375 : decode cL_law 375 = .ok (.iload_n 3, 1) := by decide +kernel
theorem dL_law_376 : decode cL_law 376 = .ok (.iconst 3, 1) := by decide +kernel
theorem dL_law_377 : decode cL_law 377 = .ok (.iadd, 1) := by decide +kernel
theorem dL_law_378 : decode cL_law 378 = .ok (.iaload, 1) := by decide +kernel
theorem dL_law_379 : decode cL_law 379 = .ok (.invokevirtual 36, 3) := by decide +kernel
theorem dL_law_382 : decode cL_law 382 = .ok (.aload_n 2, 1) := by decide +kernel
theorem dL_law_383 : decode cL_law 383 = .ok (.aload_n 0, 1) := by decide +kernel
theorem dL_law_384 : decode cL_law 384 = .ok (.iload_n 3, 1) := by decide +kernel
theorem dL_law_385 : decode cL_law 385 = .ok (.iconst 1, 1) := by decide +kernel
theorem dL_law_386 : decode cL_law 386 = .ok (.iadd, 1) := by decide +kernel
theorem dL_law_387 : decode cL_law 387 = .ok (.iaload, 1) := by decide +kernel
theorem dL_law_388 : decode cL_law 388 = .ok (.aload_n 0, 1) := by decide +kernel
theorem dL_law_389 : decode cL_law 389 = .ok (.iload_n 3, 1) := by decide +kernel
theorem dL_law_390 : decode cL_law 390 = .ok (.iconst 2, 1) := by decide +kernel
theorem dL_law_391 : decode cL_law 391 = .ok (.iadd, 1) := by decide +kernel
theorem dL_law_392 : decode cL_law 392 = .ok (.iaload, 1) := by decide +kernel
theorem dL_law_393 : decode cL_law 393 = .ok (.aload_n 0, 1) := by decide +kernel
theorem dL_law_394 : decode cL_law 394 = .ok (.iload_n 3, 1) := by decide +kernel
theorem dL_law_395 : decode cL_law 395 = .ok (.iconst 3, 1) := by decide +kernel
theorem dL_law_396 : decode cL_law 396 = .ok (.iadd, 1) := by decide +kernel
theorem dL_law_397 : decode cL_law 397 = .ok (.iaload, 1) := by decide +kernel
theorem dL_law_398 : decode cL_law 398 = .ok (.invokevirtual 40, 3) := by decide +kernel
theorem dL_law_401 : decode cL_law 401 = .ok (.if_icmp .eq 1029, 3) := by decide +kernel
theorem dL_law_404 : decode cL_law 404 = .ok (.iconst 0, 1) := by decide +kernel
theorem dL_law_405 : decode cL_law 405 = .ok (.ireturn, 1) := by decide +kernel
theorem dL_law_406 : decode cL_law 406 = .ok (.aload_n 1, 1) := by decide +kernel
theorem dL_law_407 : decode cL_law 407 = .ok (.aload_n 0, 1) := by decide +kernel
theorem dL_law_408 : decode cL_law 408 = .ok (.iload_n 3, 1) := by decide +kernel
theorem dL_law_409 : decode cL_law 409 = .ok (.iconst 1, 1) := by decide +kernel
theorem dL_law_410 : decode cL_law 410 = .ok (.iadd, 1) := by decide +kernel
theorem dL_law_411 : decode cL_law 411 = .ok (.iaload, 1) := by decide +kernel
theorem dL_law_412 : decode cL_law 412 = .ok (.aload_n 0, 1) := by decide +kernel
theorem dL_law_413 : decode cL_law 413 = .ok (.iload_n 3, 1) := by decide +kernel
theorem dL_law_414 : decode cL_law 414 = .ok (.iconst 2, 1) := by decide +kernel
theorem dL_law_415 : decode cL_law 415 = .ok (.iadd, 1) := by decide +kernel
theorem dL_law_416 : decode cL_law 416 = .ok (.iaload, 1) := by decide +kernel
theorem dL_law_417 : decode cL_law 417 = .ok (.aload_n 0, 1) := by decide +kernel
theorem dL_law_418 : decode cL_law 418 = .ok (.iload_n 3, 1) := by decide +kernel
theorem dL_law_419 : decode cL_law 419 = .ok (.iconst 3, 1) := by decide +kernel
theorem dL_law_420 : decode cL_law 420 = .ok (.iadd, 1) := by decide +kernel
theorem dL_law_421 : decode cL_law 421 = .ok (.iaload, 1) := by decide +kernel
theorem dL_law_422 : decode cL_law 422 = .ok (.invokevirtual 41, 3) := by decide +kernel
theorem dL_law_425 : decode cL_law 425 = .ok (.aload_n 2, 1) := by decide +kernel
theorem dL_law_426 : decode cL_law 426 = .ok (.aload_n 0, 1) := by decide +kernel
theorem dL_law_427 : decode cL_law 427 = .ok (.iload_n 3, 1) := by decide +kernel
theorem dL_law_428 : decode cL_law 428 = .ok (.iconst 1, 1) := by decide +kernel
theorem dL_law_429 : decode cL_law 429 = .ok (.iadd, 1) := by decide +kernel
theorem dL_law_430 : decode cL_law 430 = .ok (.iaload, 1) := by decide +kernel
theorem dL_law_431 : decode cL_law 431 = .ok (.aload_n 0, 1) := by decide +kernel
theorem dL_law_432 : decode cL_law 432 = .ok (.iload_n 3, 1) := by decide +kernel
theorem dL_law_433 : decode cL_law 433 = .ok (.iconst 2, 1) := by decide +kernel
theorem dL_law_434 : decode cL_law 434 = .ok (.iadd, 1) := by decide +kernel
theorem dL_law_435 : decode cL_law 435 = .ok (.iaload, 1) := by decide +kernel
theorem dL_law_436 : decode cL_law 436 = .ok (.aload_n 0, 1) := by decide +kernel
theorem dL_law_437 : decode cL_law 437 = .ok (.iload_n 3, 1) := by decide +kernel
theorem dL_law_438 : decode cL_law 438 = .ok (.iconst 3, 1) := by decide +kernel
theorem dL_law_439 : decode cL_law 439 = .ok (.iadd, 1) := by decide +kernel
theorem dL_law_440 : decode cL_law 440 = .ok (.iaload, 1) := by decide +kernel
theorem dL_law_441 : decode cL_law 441 = .ok (.invokevirtual 44, 3) := by decide +kernel
theorem dL_law_444 : decode cL_law 444 = .ok (.if_icmp .eq 986, 3) := by decide +kernel
theorem dL_law_447 : decode cL_law 447 = .ok (.iconst 0, 1) := by decide +kernel
theorem dL_law_448 : decode cL_law 448 = .ok (.ireturn, 1) := by decide +kernel
theorem dL_law_449 : decode cL_law 449 = .ok (.aload_n 1, 1) := by decide +kernel
theorem dL_law_450 : decode cL_law 450 = .ok (.aload_n 0, 1) := by decide +kernel
theorem dL_law_451 : decode cL_law 451 = .ok (.iload_n 3, 1) := by decide +kernel
theorem dL_law_452 : decode cL_law 452 = .ok (.iconst 1, 1) := by decide +kernel
theorem dL_law_453 : decode cL_law 453 = .ok (.iadd, 1) := by decide +kernel
theorem dL_law_454 : decode cL_law 454 = .ok (.iaload, 1) := by decide +kernel
theorem dL_law_455 : decode cL_law 455 = .ok (.invokevirtual 45, 3) := by decide +kernel
theorem dL_law_458 : decode cL_law 458 = .ok (.aload_n 2, 1) := by decide +kernel
theorem dL_law_459 : decode cL_law 459 = .ok (.aload_n 0, 1) := by decide +kernel
theorem dL_law_460 : decode cL_law 460 = .ok (.iload_n 3, 1) := by decide +kernel
theorem dL_law_461 : decode cL_law 461 = .ok (.iconst 1, 1) := by decide +kernel
theorem dL_law_462 : decode cL_law 462 = .ok (.iadd, 1) := by decide +kernel
theorem dL_law_463 : decode cL_law 463 = .ok (.iaload, 1) := by decide +kernel
theorem dL_law_464 : decode cL_law 464 = .ok (.invokevirtual 49, 3) := by decide +kernel
theorem dL_law_467 : decode cL_law 467 = .ok (.if_icmp .eq 963, 3) := by decide +kernel
theorem dL_law_470 : decode cL_law 470 = .ok (.iconst 0, 1) := by decide +kernel
theorem dL_law_471 : decode cL_law 471 = .ok (.ireturn, 1) := by decide +kernel
theorem dL_law_472 : decode cL_law 472 = .ok (.aload_n 1, 1) := by decide +kernel
theorem dL_law_473 : decode cL_law 473 = .ok (.invokevirtual 50, 3) := by decide +kernel
theorem dL_law_476 : decode cL_law 476 = .ok (.aload_n 2, 1) := by decide +kernel
theorem dL_law_477 : decode cL_law 477 = .ok (.invokevirtual 53, 3) := by decide +kernel
theorem dL_law_480 : decode cL_law 480 = .ok (.if_icmp .eq 950, 3) := by decide +kernel
theorem dL_law_483 : decode cL_law 483 = .ok (.iconst 0, 1) := by decide +kernel
theorem dL_law_484 : decode cL_law 484 = .ok (.ireturn, 1) := by decide +kernel
theorem dL_law_485 : decode cL_law 485 = .ok (.aload_n 1, 1) := by decide +kernel
theorem dL_law_486 : decode cL_law 486 = .ok (.invokevirtual 54, 3) := by decide +kernel
theorem dL_law_489 : decode cL_law 489 = .ok (.aload_n 2, 1) := by decide +kernel
theorem dL_law_490 : decode cL_law 490 = .ok (.invokevirtual 57, 3) := by decide +kernel
theorem dL_law_493 : decode cL_law 493 = .ok (.if_icmp .eq 937, 3) := by decide +kernel
theorem dL_law_496 : decode cL_law 496 = .ok (.iconst 0, 1) := by decide +kernel
theorem dL_law_497 : decode cL_law 497 = .ok (.ireturn, 1) := by decide +kernel
theorem dL_law_498 : decode cL_law 498 = .ok (.aload_n 1, 1) := by decide +kernel
theorem dL_law_499 : decode cL_law 499 = .ok (.invokevirtual 58, 3) := by decide +kernel
theorem dL_law_502 : decode cL_law 502 = .ok (.aload_n 2, 1) := by decide +kernel
theorem dL_law_503 : decode cL_law 503 = .ok (.invokevirtual 61, 3) := by decide +kernel
theorem dL_law_506 : decode cL_law 506 = .ok (.if_icmp .eq 924, 3) := by decide +kernel
theorem dL_law_509 : decode cL_law 509 = .ok (.iconst 0, 1) := by decide +kernel
theorem dL_law_510 : decode cL_law 510 = .ok (.ireturn, 1) := by decide +kernel
theorem dL_law_511 : decode cL_law 511 = .ok (.aload_n 1, 1) := by decide +kernel
theorem dL_law_512 : decode cL_law 512 = .ok (.aload_n 0, 1) := by decide +kernel
theorem dL_law_513 : decode cL_law 513 = .ok (.iload_n 3, 1) := by decide +kernel
theorem dL_law_514 : decode cL_law 514 = .ok (.iconst 1, 1) := by decide +kernel
theorem dL_law_515 : decode cL_law 515 = .ok (.iadd, 1) := by decide +kernel
theorem dL_law_516 : decode cL_law 516 = .ok (.iaload, 1) := by decide +kernel
theorem dL_law_517 : decode cL_law 517 = .ok (.aload_n 0, 1) := by decide +kernel
theorem dL_law_518 : decode cL_law 518 = .ok (.iload_n 3, 1) := by decide +kernel
theorem dL_law_519 : decode cL_law 519 = .ok (.iconst 2, 1) := by decide +kernel
theorem dL_law_520 : decode cL_law 520 = .ok (.iadd, 1) := by decide +kernel
theorem dL_law_521 : decode cL_law 521 = .ok (.iaload, 1) := by decide +kernel
theorem dL_law_522 : decode cL_law 522 = .ok (.aload_n 0, 1) := by decide +kernel
theorem dL_law_523 : decode cL_law 523 = .ok (.iload_n 3, 1) := by decide +kernel
theorem dL_law_524 : decode cL_law 524 = .ok (.iconst 3, 1) := by decide +kernel
theorem dL_law_525 : decode cL_law 525 = .ok (.iadd, 1) := by decide +kernel
theorem dL_law_526 : decode cL_law 526 = .ok (.iaload, 1) := by decide +kernel
theorem dL_law_527 : decode cL_law 527 = .ok (.invokevirtual 62, 3) := by decide +kernel
theorem dL_law_530 : decode cL_law 530 = .ok (.aload_n 2, 1) := by decide +kernel
theorem dL_law_531 : decode cL_law 531 = .ok (.aload_n 0, 1) := by decide +kernel
theorem dL_law_532 : decode cL_law 532 = .ok (.iload_n 3, 1) := by decide +kernel
theorem dL_law_533 : decode cL_law 533 = .ok (.iconst 1, 1) := by decide +kernel
theorem dL_law_534 : decode cL_law 534 = .ok (.iadd, 1) := by decide +kernel
theorem dL_law_535 : decode cL_law 535 = .ok (.iaload, 1) := by decide +kernel
theorem dL_law_536 : decode cL_law 536 = .ok (.aload_n 0, 1) := by decide +kernel
theorem dL_law_537 : decode cL_law 537 = .ok (.iload_n 3, 1) := by decide +kernel
theorem dL_law_538 : decode cL_law 538 = .ok (.iconst 2, 1) := by decide +kernel
theorem dL_law_539 : decode cL_law 539 = .ok (.iadd, 1) := by decide +kernel
theorem dL_law_540 : decode cL_law 540 = .ok (.iaload, 1) := by decide +kernel
theorem dL_law_541 : decode cL_law 541 = .ok (.aload_n 0, 1) := by decide +kernel
theorem dL_law_542 : decode cL_law 542 = .ok (.iload_n 3, 1) := by decide +kernel
theorem dL_law_543 : decode cL_law 543 = .ok (.iconst 3, 1) := by decide +kernel
theorem dL_law_544 : decode cL_law 544 = .ok (.iadd, 1) := by decide +kernel
theorem dL_law_545 : decode cL_law 545 = .ok (.iaload, 1) := by decide +kernel
theorem dL_law_546 : decode cL_law 546 = .ok (.invokevirtual 65, 3) := by decide +kernel
theorem dL_law_549 : decode cL_law 549 = .ok (.if_icmp .eq 881, 3) := by decide +kernel
theorem dL_law_552 : decode cL_law 552 = .ok (.iconst 0, 1) := by decide +kernel
theorem dL_law_553 : decode cL_law 553 = .ok (.ireturn, 1) := by decide +kernel
theorem dL_law_554 : decode cL_law 554 = .ok (.aload_n 1, 1) := by decide +kernel
theorem dL_law_555 : decode cL_law 555 = .ok (.aload_n 0, 1) := by decide +kernel
theorem dL_law_556 : decode cL_law 556 = .ok (.iload_n 3, 1) := by decide +kernel
theorem dL_law_557 : decode cL_law 557 = .ok (.iconst 1, 1) := by decide +kernel
theorem dL_law_558 : decode cL_law 558 = .ok (.iadd, 1) := by decide +kernel
theorem dL_law_559 : decode cL_law 559 = .ok (.iaload, 1) := by decide +kernel
theorem dL_law_560 : decode cL_law 560 = .ok (.aload_n 0, 1) := by decide +kernel
theorem dL_law_561 : decode cL_law 561 = .ok (.iload_n 3, 1) := by decide +kernel
theorem dL_law_562 : decode cL_law 562 = .ok (.iconst 2, 1) := by decide +kernel
theorem dL_law_563 : decode cL_law 563 = .ok (.iadd, 1) := by decide +kernel
theorem dL_law_564 : decode cL_law 564 = .ok (.iaload, 1) := by decide +kernel
theorem dL_law_565 : decode cL_law 565 = .ok (.invokevirtual 66, 3) := by decide +kernel
theorem dL_law_568 : decode cL_law 568 = .ok (.aload_n 2, 1) := by decide +kernel
theorem dL_law_569 : decode cL_law 569 = .ok (.aload_n 0, 1) := by decide +kernel
theorem dL_law_570 : decode cL_law 570 = .ok (.iload_n 3, 1) := by decide +kernel
theorem dL_law_571 : decode cL_law 571 = .ok (.iconst 1, 1) := by decide +kernel
theorem dL_law_572 : decode cL_law 572 = .ok (.iadd, 1) := by decide +kernel
theorem dL_law_573 : decode cL_law 573 = .ok (.iaload, 1) := by decide +kernel
theorem dL_law_574 : decode cL_law 574 = .ok (.aload_n 0, 1) := by decide +kernel
theorem dL_law_575 : decode cL_law 575 = .ok (.iload_n 3, 1) := by decide +kernel
theorem dL_law_576 : decode cL_law 576 = .ok (.iconst 2, 1) := by decide +kernel
theorem dL_law_577 : decode cL_law 577 = .ok (.iadd, 1) := by decide +kernel
theorem dL_law_578 : decode cL_law 578 = .ok (.iaload, 1) := by decide +kernel
theorem dL_law_579 : decode cL_law 579 = .ok (.invokevirtual 70, 3) := by decide +kernel
theorem dL_law_582 : decode cL_law 582 = .ok (.if_icmp .eq 848, 3) := by decide +kernel
theorem dL_law_585 : decode cL_law 585 = .ok (.iconst 0, 1) := by decide +kernel
theorem dL_law_586 : decode cL_law 586 = .ok (.ireturn, 1) := by decide +kernel
theorem dL_law_587 : decode cL_law 587 = .ok (.aload_n 1, 1) := by decide +kernel
theorem dL_law_588 : decode cL_law 588 = .ok (.aload_n 0, 1) := by decide +kernel
theorem dL_law_589 : decode cL_law 589 = .ok (.iload_n 3, 1) := by decide +kernel
theorem dL_law_590 : decode cL_law 590 = .ok (.iconst 1, 1) := by decide +kernel
theorem dL_law_591 : decode cL_law 591 = .ok (.iadd, 1) := by decide +kernel
theorem dL_law_592 : decode cL_law 592 = .ok (.iaload, 1) := by decide +kernel
theorem dL_law_593 : decode cL_law 593 = .ok (.aload_n 0, 1) := by decide +kernel
theorem dL_law_594 : decode cL_law 594 = .ok (.iload_n 3, 1) := by decide +kernel
theorem dL_law_595 : decode cL_law 595 = .ok (.iconst 2, 1) := by decide +kernel
theorem dL_law_596 : decode cL_law 596 = .ok (.iadd, 1) := by decide +kernel
theorem dL_law_597 : decode cL_law 597 = .ok (.iaload, 1) := by decide +kernel
theorem dL_law_598 : decode cL_law 598 = .ok (.invokevirtual 71, 3) := by decide +kernel
theorem dL_law_601 : decode cL_law 601 = .ok (.aload_n 2, 1) := by decide +kernel
theorem dL_law_602 : decode cL_law 602 = .ok (.aload_n 0, 1) := by decide +kernel
theorem dL_law_603 : decode cL_law 603 = .ok (.iload_n 3, 1) := by decide +kernel
theorem dL_law_604 : decode cL_law 604 = .ok (.iconst 1, 1) := by decide +kernel
theorem dL_law_605 : decode cL_law 605 = .ok (.iadd, 1) := by decide +kernel
theorem dL_law_606 : decode cL_law 606 = .ok (.iaload, 1) := by decide +kernel
theorem dL_law_607 : decode cL_law 607 = .ok (.aload_n 0, 1) := by decide +kernel
theorem dL_law_608 : decode cL_law 608 = .ok (.iload_n 3, 1) := by decide +kernel
theorem dL_law_609 : decode cL_law 609 = .ok (.iconst 2, 1) := by decide +kernel
theorem dL_law_610 : decode cL_law 610 = .ok (.iadd, 1) := by decide +kernel
theorem dL_law_611 : decode cL_law 611 = .ok (.iaload, 1) := by decide +kernel
theorem dL_law_612 : decode cL_law 612 = .ok (.invokevirtual 74, 3) := by decide +kernel
theorem dL_law_615 : decode cL_law 615 = .ok (.if_icmp .eq 815, 3) := by decide +kernel
theorem dL_law_618 : decode cL_law 618 = .ok (.iconst 0, 1) := by decide +kernel
theorem dL_law_619 : decode cL_law 619 = .ok (.ireturn, 1) := by decide +kernel
theorem dL_law_620 : decode cL_law 620 = .ok (.aload_n 1, 1) := by decide +kernel
theorem dL_law_621 : decode cL_law 621 = .ok (.aload_n 0, 1) := by decide +kernel
theorem dL_law_622 : decode cL_law 622 = .ok (.iload_n 3, 1) := by decide +kernel
theorem dL_law_623 : decode cL_law 623 = .ok (.iconst 1, 1) := by decide +kernel
theorem dL_law_624 : decode cL_law 624 = .ok (.iadd, 1) := by decide +kernel
theorem dL_law_625 : decode cL_law 625 = .ok (.iaload, 1) := by decide +kernel
theorem dL_law_626 : decode cL_law 626 = .ok (.aload_n 0, 1) := by decide +kernel
theorem dL_law_627 : decode cL_law 627 = .ok (.iload_n 3, 1) := by decide +kernel
theorem dL_law_628 : decode cL_law 628 = .ok (.iconst 2, 1) := by decide +kernel
theorem dL_law_629 : decode cL_law 629 = .ok (.iadd, 1) := by decide +kernel
theorem dL_law_630 : decode cL_law 630 = .ok (.iaload, 1) := by decide +kernel
theorem dL_law_631 : decode cL_law 631 = .ok (.aload_n 0, 1) := by decide +kernel
theorem dL_law_632 : decode cL_law 632 = .ok (.iload_n 3, 1) := by decide +kernel
theorem dL_law_633 : decode cL_law 633 = .ok (.iconst 3, 1) := by decide +kernel
theorem dL_law_634 : decode cL_law 634 = .ok (.iadd, 1) := by decide +kernel
theorem dL_law_635 : decode cL_law 635 = .ok (.iaload, 1) := by decide +kernel
theorem dL_law_636 : decode cL_law 636 = .ok (.aload_n 0, 1) := by decide +kernel
theorem dL_law_637 : decode cL_law 637 = .ok (.iload_n 3, 1) := by decide +kernel
theorem dL_law_638 : decode cL_law 638 = .ok (.iconst 4, 1) := by decide +kernel
theorem dL_law_639 : decode cL_law 639 = .ok (.iadd, 1) := by decide +kernel
theorem dL_law_640 : decode cL_law 640 = .ok (.iaload, 1) := by decide +kernel
theorem dL_law_641 : decode cL_law 641 = .ok (.invokevirtual 75, 3) := by decide +kernel
theorem dL_law_644 : decode cL_law 644 = .ok (.aload_n 2, 1) := by decide +kernel
theorem dL_law_645 : decode cL_law 645 = .ok (.aload_n 0, 1) := by decide +kernel
theorem dL_law_646 : decode cL_law 646 = .ok (.iload_n 3, 1) := by decide +kernel
theorem dL_law_647 : decode cL_law 647 = .ok (.iconst 1, 1) := by decide +kernel
theorem dL_law_648 : decode cL_law 648 = .ok (.iadd, 1) := by decide +kernel
theorem dL_law_649 : decode cL_law 649 = .ok (.iaload, 1) := by decide +kernel
theorem dL_law_650 : decode cL_law 650 = .ok (.aload_n 0, 1) := by decide +kernel
theorem dL_law_651 : decode cL_law 651 = .ok (.iload_n 3, 1) := by decide +kernel
theorem dL_law_652 : decode cL_law 652 = .ok (.iconst 2, 1) := by decide +kernel
theorem dL_law_653 : decode cL_law 653 = .ok (.iadd, 1) := by decide +kernel
theorem dL_law_654 : decode cL_law 654 = .ok (.iaload, 1) := by decide +kernel
theorem dL_law_655 : decode cL_law 655 = .ok (.aload_n 0, 1) := by decide +kernel
theorem dL_law_656 : decode cL_law 656 = .ok (.iload_n 3, 1) := by decide +kernel
theorem dL_law_657 : decode cL_law 657 = .ok (.iconst 3, 1) := by decide +kernel
theorem dL_law_658 : decode cL_law 658 = .ok (.iadd, 1) := by decide +kernel
theorem dL_law_659 : decode cL_law 659 = .ok (.iaload, 1) := by decide +kernel
theorem dL_law_660 : decode cL_law 660 = .ok (.aload_n 0, 1) := by decide +kernel
theorem dL_law_661 : decode cL_law 661 = .ok (.iload_n 3, 1) := by decide +kernel
theorem dL_law_662 : decode cL_law 662 = .ok (.iconst 4, 1) := by decide +kernel
theorem dL_law_663 : decode cL_law 663 = .ok (.iadd, 1) := by decide +kernel
theorem dL_law_664 : decode cL_law 664 = .ok (.iaload, 1) := by decide +kernel
theorem dL_law_665 : decode cL_law 665 = .ok (.invokevirtual 78, 3) := by decide +kernel
theorem dL_law_668 : decode cL_law 668 = .ok (.if_icmp .eq 762, 3) := by decide +kernel
theorem dL_law_671 : decode cL_law 671 = .ok (.iconst 0, 1) := by decide +kernel
theorem dL_law_672 : decode cL_law 672 = .ok (.ireturn, 1) := by decide +kernel
theorem dL_law_673 : decode cL_law 673 = .ok (.aload_n 1, 1) := by decide +kernel
theorem dL_law_674 : decode cL_law 674 = .ok (.aload_n 0, 1) := by decide +kernel
theorem dL_law_675 : decode cL_law 675 = .ok (.iload_n 3, 1) := by decide +kernel
theorem dL_law_676 : decode cL_law 676 = .ok (.iconst 1, 1) := by decide +kernel
theorem dL_law_677 : decode cL_law 677 = .ok (.iadd, 1) := by decide +kernel
theorem dL_law_678 : decode cL_law 678 = .ok (.iaload, 1) := by decide +kernel
theorem dL_law_679 : decode cL_law 679 = .ok (.aload_n 0, 1) := by decide +kernel
theorem dL_law_680 : decode cL_law 680 = .ok (.iload_n 3, 1) := by decide +kernel
theorem dL_law_681 : decode cL_law 681 = .ok (.iconst 2, 1) := by decide +kernel
theorem dL_law_682 : decode cL_law 682 = .ok (.iadd, 1) := by decide +kernel
theorem dL_law_683 : decode cL_law 683 = .ok (.iaload, 1) := by decide +kernel
theorem dL_law_684 : decode cL_law 684 = .ok (.aload_n 0, 1) := by decide +kernel
theorem dL_law_685 : decode cL_law 685 = .ok (.iload_n 3, 1) := by decide +kernel
theorem dL_law_686 : decode cL_law 686 = .ok (.iconst 3, 1) := by decide +kernel
theorem dL_law_687 : decode cL_law 687 = .ok (.iadd, 1) := by decide +kernel
theorem dL_law_688 : decode cL_law 688 = .ok (.iaload, 1) := by decide +kernel
theorem dL_law_689 : decode cL_law 689 = .ok (.invokevirtual 79, 3) := by decide +kernel
theorem dL_law_692 : decode cL_law 692 = .ok (.aload_n 2, 1) := by decide +kernel
theorem dL_law_693 : decode cL_law 693 = .ok (.aload_n 0, 1) := by decide +kernel
theorem dL_law_694 : decode cL_law 694 = .ok (.iload_n 3, 1) := by decide +kernel
theorem dL_law_695 : decode cL_law 695 = .ok (.iconst 1, 1) := by decide +kernel
theorem dL_law_696 : decode cL_law 696 = .ok (.iadd, 1) := by decide +kernel
theorem dL_law_697 : decode cL_law 697 = .ok (.iaload, 1) := by decide +kernel
theorem dL_law_698 : decode cL_law 698 = .ok (.aload_n 0, 1) := by decide +kernel
theorem dL_law_699 : decode cL_law 699 = .ok (.iload_n 3, 1) := by decide +kernel
theorem dL_law_700 : decode cL_law 700 = .ok (.iconst 2, 1) := by decide +kernel
theorem dL_law_701 : decode cL_law 701 = .ok (.iadd, 1) := by decide +kernel
theorem dL_law_702 : decode cL_law 702 = .ok (.iaload, 1) := by decide +kernel
theorem dL_law_703 : decode cL_law 703 = .ok (.aload_n 0, 1) := by decide +kernel
theorem dL_law_704 : decode cL_law 704 = .ok (.iload_n 3, 1) := by decide +kernel
theorem dL_law_705 : decode cL_law 705 = .ok (.iconst 3, 1) := by decide +kernel
theorem dL_law_706 : decode cL_law 706 = .ok (.iadd, 1) := by decide +kernel
theorem dL_law_707 : decode cL_law 707 = .ok (.iaload, 1) := by decide +kernel
theorem dL_law_708 : decode cL_law 708 = .ok (.invokevirtual 82, 3) := by decide +kernel
theorem dL_law_711 : decode cL_law 711 = .ok (.if_icmp .eq 719, 3) := by decide +kernel
theorem dL_law_714 : decode cL_law 714 = .ok (.iconst 0, 1) := by decide +kernel
theorem dL_law_715 : decode cL_law 715 = .ok (.ireturn, 1) := by decide +kernel
theorem dL_law_716 : decode cL_law 716 = .ok (.aload_n 1, 1) := by decide +kernel
theorem dL_law_717 : decode cL_law 717 = .ok (.aload_n 0, 1) := by decide +kernel
theorem dL_law_718 : decode cL_law 718 = .ok (.iload_n 3, 1) := by decide +kernel
theorem dL_law_719 : decode cL_law 719 = .ok (.iconst 1, 1) := by decide +kernel
theorem dL_law_720 : decode cL_law 720 = .ok (.iadd, 1) := by decide +kernel
theorem dL_law_721 : decode cL_law 721 = .ok (.iaload, 1) := by decide +kernel
theorem dL_law_722 : decode cL_law 722 = .ok (.aload_n 0, 1) := by decide +kernel
theorem dL_law_723 : decode cL_law 723 = .ok (.iload_n 3, 1) := by decide +kernel
theorem dL_law_724 : decode cL_law 724 = .ok (.iconst 2, 1) := by decide +kernel
theorem dL_law_725 : decode cL_law 725 = .ok (.iadd, 1) := by decide +kernel
theorem dL_law_726 : decode cL_law 726 = .ok (.iaload, 1) := by decide +kernel
theorem dL_law_727 : decode cL_law 727 = .ok (.aload_n 0, 1) := by decide +kernel
theorem dL_law_728 : decode cL_law 728 = .ok (.iload_n 3, 1) := by decide +kernel
theorem dL_law_729 : decode cL_law 729 = .ok (.iconst 3, 1) := by decide +kernel
theorem dL_law_730 : decode cL_law 730 = .ok (.iadd, 1) := by decide +kernel
theorem dL_law_731 : decode cL_law 731 = .ok (.iaload, 1) := by decide +kernel
theorem dL_law_732 : decode cL_law 732 = .ok (.aload_n 0, 1) := by decide +kernel
theorem dL_law_733 : decode cL_law 733 = .ok (.iload_n 3, 1) := by decide +kernel
theorem dL_law_734 : decode cL_law 734 = .ok (.iconst 4, 1) := by decide +kernel
theorem dL_law_735 : decode cL_law 735 = .ok (.iadd, 1) := by decide +kernel
theorem dL_law_736 : decode cL_law 736 = .ok (.iaload, 1) := by decide +kernel
theorem dL_law_737 : decode cL_law 737 = .ok (.invokevirtual 83, 3) := by decide +kernel
theorem dL_law_740 : decode cL_law 740 = .ok (.aload_n 2, 1) := by decide +kernel
theorem dL_law_741 : decode cL_law 741 = .ok (.aload_n 0, 1) := by decide +kernel
theorem dL_law_742 : decode cL_law 742 = .ok (.iload_n 3, 1) := by decide +kernel
theorem dL_law_743 : decode cL_law 743 = .ok (.iconst 1, 1) := by decide +kernel
theorem dL_law_744 : decode cL_law 744 = .ok (.iadd, 1) := by decide +kernel
theorem dL_law_745 : decode cL_law 745 = .ok (.iaload, 1) := by decide +kernel
theorem dL_law_746 : decode cL_law 746 = .ok (.aload_n 0, 1) := by decide +kernel
theorem dL_law_747 : decode cL_law 747 = .ok (.iload_n 3, 1) := by decide +kernel
theorem dL_law_748 : decode cL_law 748 = .ok (.iconst 2, 1) := by decide +kernel
theorem dL_law_749 : decode cL_law 749 = .ok (.iadd, 1) := by decide +kernel
theorem dL_law_750 : decode cL_law 750 = .ok (.iaload, 1) := by decide +kernel
theorem dL_law_751 : decode cL_law 751 = .ok (.aload_n 0, 1) := by decide +kernel
theorem dL_law_752 : decode cL_law 752 = .ok (.iload_n 3, 1) := by decide +kernel
theorem dL_law_753 : decode cL_law 753 = .ok (.iconst 3, 1) := by decide +kernel
theorem dL_law_754 : decode cL_law 754 = .ok (.iadd, 1) := by decide +kernel
theorem dL_law_755 : decode cL_law 755 = .ok (.iaload, 1) := by decide +kernel
theorem dL_law_756 : decode cL_law 756 = .ok (.aload_n 0, 1) := by decide +kernel
theorem dL_law_757 : decode cL_law 757 = .ok (.iload_n 3, 1) := by decide +kernel
theorem dL_law_758 : decode cL_law 758 = .ok (.iconst 4, 1) := by decide +kernel
theorem dL_law_759 : decode cL_law 759 = .ok (.iadd, 1) := by decide +kernel
theorem dL_law_760 : decode cL_law 760 = .ok (.iaload, 1) := by decide +kernel
theorem dL_law_761 : decode cL_law 761 = .ok (.invokevirtual 86, 3) := by decide +kernel
theorem dL_law_764 : decode cL_law 764 = .ok (.if_icmp .eq 666, 3) := by decide +kernel
theorem dL_law_767 : decode cL_law 767 = .ok (.iconst 0, 1) := by decide +kernel
theorem dL_law_768 : decode cL_law 768 = .ok (.ireturn, 1) := by decide +kernel
theorem dL_law_769 : decode cL_law 769 = .ok (.aload_n 1, 1) := by decide +kernel
theorem dL_law_770 : decode cL_law 770 = .ok (.aload_n 0, 1) := by decide +kernel
theorem dL_law_771 : decode cL_law 771 = .ok (.iload_n 3, 1) := by decide +kernel
theorem dL_law_772 : decode cL_law 772 = .ok (.iconst 1, 1) := by decide +kernel
theorem dL_law_773 : decode cL_law 773 = .ok (.iadd, 1) := by decide +kernel
theorem dL_law_774 : decode cL_law 774 = .ok (.iaload, 1) := by decide +kernel
theorem dL_law_775 : decode cL_law 775 = .ok (.aload_n 0, 1) := by decide +kernel
theorem dL_law_776 : decode cL_law 776 = .ok (.iload_n 3, 1) := by decide +kernel
theorem dL_law_777 : decode cL_law 777 = .ok (.iconst 2, 1) := by decide +kernel
theorem dL_law_778 : decode cL_law 778 = .ok (.iadd, 1) := by decide +kernel
theorem dL_law_779 : decode cL_law 779 = .ok (.iaload, 1) := by decide +kernel
theorem dL_law_780 : decode cL_law 780 = .ok (.aload_n 0, 1) := by decide +kernel
theorem dL_law_781 : decode cL_law 781 = .ok (.iload_n 3, 1) := by decide +kernel
theorem dL_law_782 : decode cL_law 782 = .ok (.iconst 3, 1) := by decide +kernel
theorem dL_law_783 : decode cL_law 783 = .ok (.iadd, 1) := by decide +kernel
theorem dL_law_784 : decode cL_law 784 = .ok (.iaload, 1) := by decide +kernel
theorem dL_law_785 : decode cL_law 785 = .ok (.aload_n 0, 1) := by decide +kernel
theorem dL_law_786 : decode cL_law 786 = .ok (.iload_n 3, 1) := by decide +kernel
theorem dL_law_787 : decode cL_law 787 = .ok (.iconst 4, 1) := by decide +kernel
theorem dL_law_788 : decode cL_law 788 = .ok (.iadd, 1) := by decide +kernel
theorem dL_law_789 : decode cL_law 789 = .ok (.iaload, 1) := by decide +kernel
theorem dL_law_790 : decode cL_law 790 = .ok (.invokevirtual 87, 3) := by decide +kernel
theorem dL_law_793 : decode cL_law 793 = .ok (.aload_n 2, 1) := by decide +kernel
theorem dL_law_794 : decode cL_law 794 = .ok (.aload_n 0, 1) := by decide +kernel
theorem dL_law_795 : decode cL_law 795 = .ok (.iload_n 3, 1) := by decide +kernel
theorem dL_law_796 : decode cL_law 796 = .ok (.iconst 1, 1) := by decide +kernel
theorem dL_law_797 : decode cL_law 797 = .ok (.iadd, 1) := by decide +kernel
theorem dL_law_798 : decode cL_law 798 = .ok (.iaload, 1) := by decide +kernel
theorem dL_law_799 : decode cL_law 799 = .ok (.aload_n 0, 1) := by decide +kernel
theorem dL_law_800 : decode cL_law 800 = .ok (.iload_n 3, 1) := by decide +kernel
theorem dL_law_801 : decode cL_law 801 = .ok (.iconst 2, 1) := by decide +kernel
theorem dL_law_802 : decode cL_law 802 = .ok (.iadd, 1) := by decide +kernel
theorem dL_law_803 : decode cL_law 803 = .ok (.iaload, 1) := by decide +kernel
theorem dL_law_804 : decode cL_law 804 = .ok (.aload_n 0, 1) := by decide +kernel
theorem dL_law_805 : decode cL_law 805 = .ok (.iload_n 3, 1) := by decide +kernel
theorem dL_law_806 : decode cL_law 806 = .ok (.iconst 3, 1) := by decide +kernel
theorem dL_law_807 : decode cL_law 807 = .ok (.iadd, 1) := by decide +kernel
theorem dL_law_808 : decode cL_law 808 = .ok (.iaload, 1) := by decide +kernel
theorem dL_law_809 : decode cL_law 809 = .ok (.aload_n 0, 1) := by decide +kernel
theorem dL_law_810 : decode cL_law 810 = .ok (.iload_n 3, 1) := by decide +kernel
theorem dL_law_811 : decode cL_law 811 = .ok (.iconst 4, 1) := by decide +kernel
theorem dL_law_812 : decode cL_law 812 = .ok (.iadd, 1) := by decide +kernel
theorem dL_law_813 : decode cL_law 813 = .ok (.iaload, 1) := by decide +kernel
theorem dL_law_814 : decode cL_law 814 = .ok (.invokevirtual 90, 3) := by decide +kernel
theorem dL_law_817 : decode cL_law 817 = .ok (.if_icmp .eq 613, 3) := by decide +kernel
theorem dL_law_820 : decode cL_law 820 = .ok (.iconst 0, 1) := by decide +kernel
theorem dL_law_821 : decode cL_law 821 = .ok (.ireturn, 1) := by decide +kernel
theorem dL_law_822 : decode cL_law 822 = .ok (.aload_n 1, 1) := by decide +kernel
theorem dL_law_823 : decode cL_law 823 = .ok (.aload_n 0, 1) := by decide +kernel
theorem dL_law_824 : decode cL_law 824 = .ok (.iload_n 3, 1) := by decide +kernel
theorem dL_law_825 : decode cL_law 825 = .ok (.iconst 1, 1) := by decide +kernel
theorem dL_law_826 : decode cL_law 826 = .ok (.iadd, 1) := by decide +kernel
theorem dL_law_827 : decode cL_law 827 = .ok (.iaload, 1) := by decide +kernel
theorem dL_law_828 : decode cL_law 828 = .ok (.aload_n 0, 1) := by decide +kernel
theorem dL_law_829 : decode cL_law 829 = .ok (.iload_n 3, 1) := by decide +kernel
theorem dL_law_830 : decode cL_law 830 = .ok (.iconst 2, 1) := by decide +kernel
theorem dL_law_831 : decode cL_law 831 = .ok (.iadd, 1) := by decide +kernel
theorem dL_law_832 : decode cL_law 832 = .ok (.iaload, 1) := by decide +kernel
theorem dL_law_833 : decode cL_law 833 = .ok (.aload_n 0, 1) := by decide +kernel
theorem dL_law_834 : decode cL_law 834 = .ok (.iload_n 3, 1) := by decide +kernel
theorem dL_law_835 : decode cL_law 835 = .ok (.iconst 3, 1) := by decide +kernel
theorem dL_law_836 : decode cL_law 836 = .ok (.iadd, 1) := by decide +kernel
theorem dL_law_837 : decode cL_law 837 = .ok (.iaload, 1) := by decide +kernel
theorem dL_law_838 : decode cL_law 838 = .ok (.aload_n 0, 1) := by decide +kernel
theorem dL_law_839 : decode cL_law 839 = .ok (.iload_n 3, 1) := by decide +kernel
theorem dL_law_840 : decode cL_law 840 = .ok (.iconst 4, 1) := by decide +kernel
theorem dL_law_841 : decode cL_law 841 = .ok (.iadd, 1) := by decide +kernel
theorem dL_law_842 : decode cL_law 842 = .ok (.iaload, 1) := by decide +kernel
theorem dL_law_843 : decode cL_law 843 = .ok (.invokevirtual 91, 3) := by decide +kernel
theorem dL_law_846 : decode cL_law 846 = .ok (.aload_n 2, 1) := by decide +kernel
theorem dL_law_847 : decode cL_law 847 = .ok (.aload_n 0, 1) := by decide +kernel
theorem dL_law_848 : decode cL_law 848 = .ok (.iload_n 3, 1) := by decide +kernel
theorem dL_law_849 : decode cL_law 849 = .ok (.iconst 1, 1) := by decide +kernel
theorem dL_law_850 : decode cL_law 850 = .ok (.iadd, 1) := by decide +kernel
theorem dL_law_851 : decode cL_law 851 = .ok (.iaload, 1) := by decide +kernel
theorem dL_law_852 : decode cL_law 852 = .ok (.aload_n 0, 1) := by decide +kernel
theorem dL_law_853 : decode cL_law 853 = .ok (.iload_n 3, 1) := by decide +kernel
theorem dL_law_854 : decode cL_law 854 = .ok (.iconst 2, 1) := by decide +kernel
theorem dL_law_855 : decode cL_law 855 = .ok (.iadd, 1) := by decide +kernel
theorem dL_law_856 : decode cL_law 856 = .ok (.iaload, 1) := by decide +kernel
theorem dL_law_857 : decode cL_law 857 = .ok (.aload_n 0, 1) := by decide +kernel
theorem dL_law_858 : decode cL_law 858 = .ok (.iload_n 3, 1) := by decide +kernel
theorem dL_law_859 : decode cL_law 859 = .ok (.iconst 3, 1) := by decide +kernel
theorem dL_law_860 : decode cL_law 860 = .ok (.iadd, 1) := by decide +kernel
theorem dL_law_861 : decode cL_law 861 = .ok (.iaload, 1) := by decide +kernel
theorem dL_law_862 : decode cL_law 862 = .ok (.aload_n 0, 1) := by decide +kernel
theorem dL_law_863 : decode cL_law 863 = .ok (.iload_n 3, 1) := by decide +kernel
theorem dL_law_864 : decode cL_law 864 = .ok (.iconst 4, 1) := by decide +kernel
theorem dL_law_865 : decode cL_law 865 = .ok (.iadd, 1) := by decide +kernel
theorem dL_law_866 : decode cL_law 866 = .ok (.iaload, 1) := by decide +kernel
theorem dL_law_867 : decode cL_law 867 = .ok (.invokevirtual 94, 3) := by decide +kernel
theorem dL_law_870 : decode cL_law 870 = .ok (.if_icmp .eq 560, 3) := by decide +kernel
theorem dL_law_873 : decode cL_law 873 = .ok (.iconst 0, 1) := by decide +kernel
theorem dL_law_874 : decode cL_law 874 = .ok (.ireturn, 1) := by decide +kernel
theorem dL_law_875 : decode cL_law 875 = .ok (.aload_n 1, 1) := by decide +kernel
theorem dL_law_876 : decode cL_law 876 = .ok (.invokevirtual 95, 3) := by decide +kernel
theorem dL_law_879 : decode cL_law 879 = .ok (.aload_n 2, 1) := by decide +kernel
theorem dL_law_880 : decode cL_law 880 = .ok (.invokevirtual 98, 3) := by decide +kernel
theorem dL_law_883 : decode cL_law 883 = .ok (.if_icmp .eq 547, 3) := by decide +kernel
theorem dL_law_886 : decode cL_law 886 = .ok (.iconst 0, 1) := by decide +kernel
theorem dL_law_887 : decode cL_law 887 = .ok (.ireturn, 1) := by decide +kernel
theorem dL_law_888 : decode cL_law 888 = .ok (.aload_n 1, 1) := by decide +kernel
theorem dL_law_889 : decode cL_law 889 = .ok (.aload_n 0, 1) := by decide +kernel
theorem dL_law_890 : decode cL_law 890 = .ok (.iload_n 3, 1) := by decide +kernel
theorem dL_law_891 : decode cL_law 891 = .ok (.iconst 1, 1) := by decide +kernel
theorem dL_law_892 : decode cL_law 892 = .ok (.iadd, 1) := by decide +kernel
theorem dL_law_893 : decode cL_law 893 = .ok (.iaload, 1) := by decide +kernel
theorem dL_law_894 : decode cL_law 894 = .ok (.invokevirtual 99, 3) := by decide +kernel
theorem dL_law_897 : decode cL_law 897 = .ok (.aload_n 2, 1) := by decide +kernel
theorem dL_law_898 : decode cL_law 898 = .ok (.aload_n 0, 1) := by decide +kernel
theorem dL_law_899 : decode cL_law 899 = .ok (.iload_n 3, 1) := by decide +kernel
theorem dL_law_900 : decode cL_law 900 = .ok (.iconst 1, 1) := by decide +kernel
theorem dL_law_901 : decode cL_law 901 = .ok (.iadd, 1) := by decide +kernel
theorem dL_law_902 : decode cL_law 902 = .ok (.iaload, 1) := by decide +kernel
theorem dL_law_903 : decode cL_law 903 = .ok (.invokevirtual 102, 3) := by decide +kernel
theorem dL_law_906 : decode cL_law 906 = .ok (.if_icmp .eq 524, 3) := by decide +kernel
theorem dL_law_909 : decode cL_law 909 = .ok (.iconst 0, 1) := by decide +kernel
theorem dL_law_910 : decode cL_law 910 = .ok (.ireturn, 1) := by decide +kernel
theorem dL_law_911 : decode cL_law 911 = .ok (.aload_n 1, 1) := by decide +kernel
theorem dL_law_912 : decode cL_law 912 = .ok (.invokevirtual 103, 3) := by decide +kernel
theorem dL_law_915 : decode cL_law 915 = .ok (.aload_n 2, 1) := by decide +kernel
theorem dL_law_916 : decode cL_law 916 = .ok (.invokevirtual 106, 3) := by decide +kernel
theorem dL_law_919 : decode cL_law 919 = .ok (.if_icmp .eq 511, 3) := by decide +kernel
theorem dL_law_922 : decode cL_law 922 = .ok (.iconst 0, 1) := by decide +kernel
theorem dL_law_923 : decode cL_law 923 = .ok (.ireturn, 1) := by decide +kernel
theorem dL_law_924 : decode cL_law 924 = .ok (.aload_n 1, 1) := by decide +kernel
theorem dL_law_925 : decode cL_law 925 = .ok (.aload_n 0, 1) := by decide +kernel
theorem dL_law_926 : decode cL_law 926 = .ok (.iload_n 3, 1) := by decide +kernel
theorem dL_law_927 : decode cL_law 927 = .ok (.iconst 1, 1) := by decide +kernel
theorem dL_law_928 : decode cL_law 928 = .ok (.iadd, 1) := by decide +kernel
theorem dL_law_929 : decode cL_law 929 = .ok (.iaload, 1) := by decide +kernel
theorem dL_law_930 : decode cL_law 930 = .ok (.aload_n 0, 1) := by decide +kernel
theorem dL_law_931 : decode cL_law 931 = .ok (.iload_n 3, 1) := by decide +kernel
theorem dL_law_932 : decode cL_law 932 = .ok (.iconst 2, 1) := by decide +kernel
theorem dL_law_933 : decode cL_law 933 = .ok (.iadd, 1) := by decide +kernel
theorem dL_law_934 : decode cL_law 934 = .ok (.iaload, 1) := by decide +kernel
theorem dL_law_935 : decode cL_law 935 = .ok (.aload_n 0, 1) := by decide +kernel
theorem dL_law_936 : decode cL_law 936 = .ok (.iload_n 3, 1) := by decide +kernel
theorem dL_law_937 : decode cL_law 937 = .ok (.iconst 3, 1) := by decide +kernel
theorem dL_law_938 : decode cL_law 938 = .ok (.iadd, 1) := by decide +kernel
theorem dL_law_939 : decode cL_law 939 = .ok (.iaload, 1) := by decide +kernel
theorem dL_law_940 : decode cL_law 940 = .ok (.aload_n 0, 1) := by decide +kernel
theorem dL_law_941 : decode cL_law 941 = .ok (.iload_n 3, 1) := by decide +kernel
theorem dL_law_942 : decode cL_law 942 = .ok (.iconst 4, 1) := by decide +kernel
theorem dL_law_943 : decode cL_law 943 = .ok (.iadd, 1) := by decide +kernel
theorem dL_law_944 : decode cL_law 944 = .ok (.iaload, 1) := by decide +kernel
theorem dL_law_945 : decode cL_law 945 = .ok (.aload_n 0, 1) := by decide +kernel
theorem dL_law_946 : decode cL_law 946 = .ok (.iload_n 3, 1) := by decide +kernel
theorem dL_law_947 : decode cL_law 947 = .ok (.iconst 5, 1) := by decide +kernel
theorem dL_law_948 : decode cL_law 948 = .ok (.iadd, 1) := by decide +kernel
theorem dL_law_949 : decode cL_law 949 = .ok (.iaload, 1) := by decide +kernel
theorem dL_law_950 : decode cL_law 950 = .ok (.invokevirtual 107, 3) := by decide +kernel
theorem dL_law_953 : decode cL_law 953 = .ok (.aload_n 2, 1) := by decide +kernel
theorem dL_law_954 : decode cL_law 954 = .ok (.aload_n 0, 1) := by decide +kernel
theorem dL_law_955 : decode cL_law 955 = .ok (.iload_n 3, 1) := by decide +kernel
theorem dL_law_956 : decode cL_law 956 = .ok (.iconst 1, 1) := by decide +kernel
theorem dL_law_957 : decode cL_law 957 = .ok (.iadd, 1) := by decide +kernel
theorem dL_law_958 : decode cL_law 958 = .ok (.iaload, 1) := by decide +kernel
theorem dL_law_959 : decode cL_law 959 = .ok (.aload_n 0, 1) := by decide +kernel
theorem dL_law_960 : decode cL_law 960 = .ok (.iload_n 3, 1) := by decide +kernel
theorem dL_law_961 : decode cL_law 961 = .ok (.iconst 2, 1) := by decide +kernel
theorem dL_law_962 : decode cL_law 962 = .ok (.iadd, 1) := by decide +kernel
theorem dL_law_963 : decode cL_law 963 = .ok (.iaload, 1) := by decide +kernel
theorem dL_law_964 : decode cL_law 964 = .ok (.aload_n 0, 1) := by decide +kernel
theorem dL_law_965 : decode cL_law 965 = .ok (.iload_n 3, 1) := by decide +kernel
theorem dL_law_966 : decode cL_law 966 = .ok (.iconst 3, 1) := by decide +kernel
theorem dL_law_967 : decode cL_law 967 = .ok (.iadd, 1) := by decide +kernel
theorem dL_law_968 : decode cL_law 968 = .ok (.iaload, 1) := by decide +kernel
theorem dL_law_969 : decode cL_law 969 = .ok (.aload_n 0, 1) := by decide +kernel
theorem dL_law_970 : decode cL_law 970 = .ok (.iload_n 3, 1) := by decide +kernel
theorem dL_law_971 : decode cL_law 971 = .ok (.iconst 4, 1) := by decide +kernel
theorem dL_law_972 : decode cL_law 972 = .ok (.iadd, 1) := by decide +kernel
theorem dL_law_973 : decode cL_law 973 = .ok (.iaload, 1) := by decide +kernel
theorem dL_law_974 : decode cL_law 974 = .ok (.aload_n 0, 1) := by decide +kernel
theorem dL_law_975 : decode cL_law 975 = .ok (.iload_n 3, 1) := by decide +kernel
theorem dL_law_976 : decode cL_law 976 = .ok (.iconst 5, 1) := by decide +kernel
theorem dL_law_977 : decode cL_law 977 = .ok (.iadd, 1) := by decide +kernel
theorem dL_law_978 : decode cL_law 978 = .ok (.iaload, 1) := by decide +kernel
theorem dL_law_979 : decode cL_law 979 = .ok (.invokevirtual 111, 3) := by decide +kernel
theorem dL_law_982 : decode cL_law 982 = .ok (.if_icmp .eq 448, 3) := by decide +kernel
theorem dL_law_985 : decode cL_law 985 = .ok (.iconst 0, 1) := by decide +kernel
theorem dL_law_986 : decode cL_law 986 = .ok (.ireturn, 1) := by decide +kernel
theorem dL_law_987 : decode cL_law 987 = .ok (.aload_n 1, 1) := by decide +kernel
theorem dL_law_988 : decode cL_law 988 = .ok (.aload_n 0, 1) := by decide +kernel
theorem dL_law_989 : decode cL_law 989 = .ok (.iload_n 3, 1) := by decide +kernel
theorem dL_law_990 : decode cL_law 990 = .ok (.iconst 1, 1) := by decide +kernel
theorem dL_law_991 : decode cL_law 991 = .ok (.iadd, 1) := by decide +kernel
theorem dL_law_992 : decode cL_law 992 = .ok (.iaload, 1) := by decide +kernel
theorem dL_law_993 : decode cL_law 993 = .ok (.aload_n 0, 1) := by decide +kernel
theorem dL_law_994 : decode cL_law 994 = .ok (.iload_n 3, 1) := by decide +kernel
theorem dL_law_995 : decode cL_law 995 = .ok (.iconst 2, 1) := by decide +kernel
theorem dL_law_996 : decode cL_law 996 = .ok (.iadd, 1) := by decide +kernel
theorem dL_law_997 : decode cL_law 997 = .ok (.iaload, 1) := by decide +kernel
theorem dL_law_998 : decode cL_law 998 = .ok (.aload_n 0, 1) := by decide +kernel
theorem dL_law_999 : decode cL_law 999 = .ok (.iload_n 3, 1) := by decide +kernel
theorem dL_law_1000 : decode cL_law 1000 = .ok (.iconst 3, 1) := by decide +kernel
theorem dL_law_1001 : decode cL_law 1001 = .ok (.iadd, 1) := by decide +kernel
theorem dL_law_1002 : decode cL_law 1002 = .ok (.iaload, 1) := by decide +kernel
theorem dL_law_1003 : decode cL_law 1003 = .ok (.aload_n 0, 1) := by decide +kernel
theorem dL_law_1004 : decode cL_law 1004 = .ok (.iload_n 3, 1) := by decide +kernel
theorem dL_law_1005 : decode cL_law 1005 = .ok (.iconst 4, 1) := by decide +kernel
theorem dL_law_1006 : decode cL_law 1006 = .ok (.iadd, 1) := by decide +kernel
theorem dL_law_1007 : decode cL_law 1007 = .ok (.iaload, 1) := by decide +kernel
theorem dL_law_1008 : decode cL_law 1008 = .ok (.invokevirtual 112, 3) := by decide +kernel
theorem dL_law_1011 : decode cL_law 1011 = .ok (.aload_n 2, 1) := by decide +kernel
theorem dL_law_1012 : decode cL_law 1012 = .ok (.aload_n 0, 1) := by decide +kernel
theorem dL_law_1013 : decode cL_law 1013 = .ok (.iload_n 3, 1) := by decide +kernel
theorem dL_law_1014 : decode cL_law 1014 = .ok (.iconst 1, 1) := by decide +kernel
theorem dL_law_1015 : decode cL_law 1015 = .ok (.iadd, 1) := by decide +kernel
theorem dL_law_1016 : decode cL_law 1016 = .ok (.iaload, 1) := by decide +kernel
theorem dL_law_1017 : decode cL_law 1017 = .ok (.aload_n 0, 1) := by decide +kernel
theorem dL_law_1018 : decode cL_law 1018 = .ok (.iload_n 3, 1) := by decide +kernel
theorem dL_law_1019 : decode cL_law 1019 = .ok (.iconst 2, 1) := by decide +kernel
theorem dL_law_1020 : decode cL_law 1020 = .ok (.iadd, 1) := by decide +kernel
theorem dL_law_1021 : decode cL_law 1021 = .ok (.iaload, 1) := by decide +kernel
theorem dL_law_1022 : decode cL_law 1022 = .ok (.aload_n 0, 1) := by decide +kernel
theorem dL_law_1023 : decode cL_law 1023 = .ok (.iload_n 3, 1) := by decide +kernel
theorem dL_law_1024 : decode cL_law 1024 = .ok (.iconst 3, 1) := by decide +kernel
theorem dL_law_1025 : decode cL_law 1025 = .ok (.iadd, 1) := by decide +kernel
theorem dL_law_1026 : decode cL_law 1026 = .ok (.iaload, 1) := by decide +kernel
theorem dL_law_1027 : decode cL_law 1027 = .ok (.aload_n 0, 1) := by decide +kernel
theorem dL_law_1028 : decode cL_law 1028 = .ok (.iload_n 3, 1) := by decide +kernel
theorem dL_law_1029 : decode cL_law 1029 = .ok (.iconst 4, 1) := by decide +kernel
theorem dL_law_1030 : decode cL_law 1030 = .ok (.iadd, 1) := by decide +kernel
theorem dL_law_1031 : decode cL_law 1031 = .ok (.iaload, 1) := by decide +kernel
theorem dL_law_1032 : decode cL_law 1032 = .ok (.invokevirtual 115, 3) := by decide +kernel
theorem dL_law_1035 : decode cL_law 1035 = .ok (.if_icmp .eq 395, 3) := by decide +kernel
theorem dL_law_1038 : decode cL_law 1038 = .ok (.iconst 0, 1) := by decide +kernel
theorem dL_law_1039 : decode cL_law 1039 = .ok (.ireturn, 1) := by decide +kernel
theorem dL_law_1040 : decode cL_law 1040 = .ok (.aload_n 1, 1) := by decide +kernel
theorem dL_law_1041 : decode cL_law 1041 = .ok (.aload_n 0, 1) := by decide +kernel
theorem dL_law_1042 : decode cL_law 1042 = .ok (.iload_n 3, 1) := by decide +kernel
theorem dL_law_1043 : decode cL_law 1043 = .ok (.iconst 1, 1) := by decide +kernel
theorem dL_law_1044 : decode cL_law 1044 = .ok (.iadd, 1) := by decide +kernel
theorem dL_law_1045 : decode cL_law 1045 = .ok (.iaload, 1) := by decide +kernel
theorem dL_law_1046 : decode cL_law 1046 = .ok (.aload_n 0, 1) := by decide +kernel
theorem dL_law_1047 : decode cL_law 1047 = .ok (.iload_n 3, 1) := by decide +kernel
theorem dL_law_1048 : decode cL_law 1048 = .ok (.iconst 2, 1) := by decide +kernel
theorem dL_law_1049 : decode cL_law 1049 = .ok (.iadd, 1) := by decide +kernel
theorem dL_law_1050 : decode cL_law 1050 = .ok (.iaload, 1) := by decide +kernel
theorem dL_law_1051 : decode cL_law 1051 = .ok (.aload_n 0, 1) := by decide +kernel
theorem dL_law_1052 : decode cL_law 1052 = .ok (.iload_n 3, 1) := by decide +kernel
theorem dL_law_1053 : decode cL_law 1053 = .ok (.iconst 3, 1) := by decide +kernel
theorem dL_law_1054 : decode cL_law 1054 = .ok (.iadd, 1) := by decide +kernel
theorem dL_law_1055 : decode cL_law 1055 = .ok (.iaload, 1) := by decide +kernel
theorem dL_law_1056 : decode cL_law 1056 = .ok (.aload_n 0, 1) := by decide +kernel
theorem dL_law_1057 : decode cL_law 1057 = .ok (.iload_n 3, 1) := by decide +kernel
theorem dL_law_1058 : decode cL_law 1058 = .ok (.iconst 4, 1) := by decide +kernel
theorem dL_law_1059 : decode cL_law 1059 = .ok (.iadd, 1) := by decide +kernel
theorem dL_law_1060 : decode cL_law 1060 = .ok (.iaload, 1) := by decide +kernel
theorem dL_law_1061 : decode cL_law 1061 = .ok (.aload_n 0, 1) := by decide +kernel
theorem dL_law_1062 : decode cL_law 1062 = .ok (.iload_n 3, 1) := by decide +kernel
theorem dL_law_1063 : decode cL_law 1063 = .ok (.iconst 5, 1) := by decide +kernel
theorem dL_law_1064 : decode cL_law 1064 = .ok (.iadd, 1) := by decide +kernel
theorem dL_law_1065 : decode cL_law 1065 = .ok (.iaload, 1) := by decide +kernel
theorem dL_law_1066 : decode cL_law 1066 = .ok (.invokevirtual 116, 3) := by decide +kernel
theorem dL_law_1069 : decode cL_law 1069 = .ok (.aload_n 2, 1) := by decide +kernel
theorem dL_law_1070 : decode cL_law 1070 = .ok (.aload_n 0, 1) := by decide +kernel
theorem dL_law_1071 : decode cL_law 1071 = .ok (.iload_n 3, 1) := by decide +kernel
theorem dL_law_1072 : decode cL_law 1072 = .ok (.iconst 1, 1) := by decide +kernel
theorem dL_law_1073 : decode cL_law 1073 = .ok (.iadd, 1) := by decide +kernel
theorem dL_law_1074 : decode cL_law 1074 = .ok (.iaload, 1) := by decide +kernel
theorem dL_law_1075 : decode cL_law 1075 = .ok (.aload_n 0, 1) := by decide +kernel
theorem dL_law_1076 : decode cL_law 1076 = .ok (.iload_n 3, 1) := by decide +kernel
theorem dL_law_1077 : decode cL_law 1077 = .ok (.iconst 2, 1) := by decide +kernel
theorem dL_law_1078 : decode cL_law 1078 = .ok (.iadd, 1) := by decide +kernel
theorem dL_law_1079 : decode cL_law 1079 = .ok (.iaload, 1) := by decide +kernel
theorem dL_law_1080 : decode cL_law 1080 = .ok (.aload_n 0, 1) := by decide +kernel
theorem dL_law_1081 : decode cL_law 1081 = .ok (.iload_n 3, 1) := by decide +kernel
theorem dL_law_1082 : decode cL_law 1082 = .ok (.iconst 3, 1) := by decide +kernel
theorem dL_law_1083 : decode cL_law 1083 = .ok (.iadd, 1) := by decide +kernel
theorem dL_law_1084 : decode cL_law 1084 = .ok (.iaload, 1) := by decide +kernel
theorem dL_law_1085 : decode cL_law 1085 = .ok (.aload_n 0, 1) := by decide +kernel
theorem dL_law_1086 : decode cL_law 1086 = .ok (.iload_n 3, 1) := by decide +kernel
theorem dL_law_1087 : decode cL_law 1087 = .ok (.iconst 4, 1) := by decide +kernel
theorem dL_law_1088 : decode cL_law 1088 = .ok (.iadd, 1) := by decide +kernel
theorem dL_law_1089 : decode cL_law 1089 = .ok (.iaload, 1) := by decide +kernel
theorem dL_law_1090 : decode cL_law 1090 = .ok (.aload_n 0, 1) := by decide +kernel
theorem dL_law_1091 : decode cL_law 1091 = .ok (.iload_n 3, 1) := by decide +kernel
theorem dL_law_1092 : decode cL_law 1092 = .ok (.iconst 5, 1) := by decide +kernel
theorem dL_law_1093 : decode cL_law 1093 = .ok (.iadd, 1) := by decide +kernel
theorem dL_law_1094 : decode cL_law 1094 = .ok (.iaload, 1) := by decide +kernel
theorem dL_law_1095 : decode cL_law 1095 = .ok (.invokevirtual 119, 3) := by decide +kernel
theorem dL_law_1098 : decode cL_law 1098 = .ok (.if_icmp .eq 332, 3) := by decide +kernel
theorem dL_law_1101 : decode cL_law 1101 = .ok (.iconst 0, 1) := by decide +kernel
theorem dL_law_1102 : decode cL_law 1102 = .ok (.ireturn, 1) := by decide +kernel
theorem dL_law_1103 : decode cL_law 1103 = .ok (.aload_n 1, 1) := by decide +kernel
theorem dL_law_1104 : decode cL_law 1104 = .ok (.aload_n 0, 1) := by decide +kernel
theorem dL_law_1105 : decode cL_law 1105 = .ok (.iload_n 3, 1) := by decide +kernel
theorem dL_law_1106 : decode cL_law 1106 = .ok (.iconst 1, 1) := by decide +kernel
theorem dL_law_1107 : decode cL_law 1107 = .ok (.iadd, 1) := by decide +kernel
theorem dL_law_1108 : decode cL_law 1108 = .ok (.iaload, 1) := by decide +kernel
theorem dL_law_1109 : decode cL_law 1109 = .ok (.aload_n 0, 1) := by decide +kernel
theorem dL_law_1110 : decode cL_law 1110 = .ok (.iload_n 3, 1) := by decide +kernel
theorem dL_law_1111 : decode cL_law 1111 = .ok (.iconst 2, 1) := by decide +kernel
theorem dL_law_1112 : decode cL_law 1112 = .ok (.iadd, 1) := by decide +kernel
theorem dL_law_1113 : decode cL_law 1113 = .ok (.iaload, 1) := by decide +kernel
theorem dL_law_1114 : decode cL_law 1114 = .ok (.invokevirtual 120, 3) := by decide +kernel
theorem dL_law_1117 : decode cL_law 1117 = .ok (.aload_n 2, 1) := by decide +kernel
theorem dL_law_1118 : decode cL_law 1118 = .ok (.aload_n 0, 1) := by decide +kernel
theorem dL_law_1119 : decode cL_law 1119 = .ok (.iload_n 3, 1) := by decide +kernel
theorem dL_law_1120 : decode cL_law 1120 = .ok (.iconst 1, 1) := by decide +kernel
theorem dL_law_1121 : decode cL_law 1121 = .ok (.iadd, 1) := by decide +kernel
theorem dL_law_1122 : decode cL_law 1122 = .ok (.iaload, 1) := by decide +kernel
theorem dL_law_1123 : decode cL_law 1123 = .ok (.aload_n 0, 1) := by decide +kernel
theorem dL_law_1124 : decode cL_law 1124 = .ok (.iload_n 3, 1) := by decide +kernel
theorem dL_law_1125 : decode cL_law 1125 = .ok (.iconst 2, 1) := by decide +kernel
theorem dL_law_1126 : decode cL_law 1126 = .ok (.iadd, 1) := by decide +kernel
theorem dL_law_1127 : decode cL_law 1127 = .ok (.iaload, 1) := by decide +kernel
theorem dL_law_1128 : decode cL_law 1128 = .ok (.invokevirtual 123, 3) := by decide +kernel
theorem dL_law_1131 : decode cL_law 1131 = .ok (.if_icmp .eq 299, 3) := by decide +kernel
theorem dL_law_1134 : decode cL_law 1134 = .ok (.iconst 0, 1) := by decide +kernel
theorem dL_law_1135 : decode cL_law 1135 = .ok (.ireturn, 1) := by decide +kernel
theorem dL_law_1136 : decode cL_law 1136 = .ok (.aload_n 1, 1) := by decide +kernel
theorem dL_law_1137 : decode cL_law 1137 = .ok (.aload_n 0, 1) := by decide +kernel
theorem dL_law_1138 : decode cL_law 1138 = .ok (.iload_n 3, 1) := by decide +kernel
theorem dL_law_1139 : decode cL_law 1139 = .ok (.iconst 1, 1) := by decide +kernel
theorem dL_law_1140 : decode cL_law 1140 = .ok (.iadd, 1) := by decide +kernel
theorem dL_law_1141 : decode cL_law 1141 = .ok (.iaload, 1) := by decide +kernel
theorem dL_law_1142 : decode cL_law 1142 = .ok (.aload_n 0, 1) := by decide +kernel
theorem dL_law_1143 : decode cL_law 1143 = .ok (.iload_n 3, 1) := by decide +kernel
theorem dL_law_1144 : decode cL_law 1144 = .ok (.iconst 2, 1) := by decide +kernel
theorem dL_law_1145 : decode cL_law 1145 = .ok (.iadd, 1) := by decide +kernel
theorem dL_law_1146 : decode cL_law 1146 = .ok (.iaload, 1) := by decide +kernel
theorem dL_law_1147 : decode cL_law 1147 = .ok (.aload_n 0, 1) := by decide +kernel
theorem dL_law_1148 : decode cL_law 1148 = .ok (.iload_n 3, 1) := by decide +kernel
theorem dL_law_1149 : decode cL_law 1149 = .ok (.iconst 3, 1) := by decide +kernel
theorem dL_law_1150 : decode cL_law 1150 = .ok (.iadd, 1) := by decide +kernel
theorem dL_law_1151 : decode cL_law 1151 = .ok (.iaload, 1) := by decide +kernel
theorem dL_law_1152 : decode cL_law 1152 = .ok (.invokevirtual 124, 3) := by decide +kernel
theorem dL_law_1155 : decode cL_law 1155 = .ok (.aload_n 2, 1) := by decide +kernel
theorem dL_law_1156 : decode cL_law 1156 = .ok (.aload_n 0, 1) := by decide +kernel
theorem dL_law_1157 : decode cL_law 1157 = .ok (.iload_n 3, 1) := by decide +kernel
theorem dL_law_1158 : decode cL_law 1158 = .ok (.iconst 1, 1) := by decide +kernel
theorem dL_law_1159 : decode cL_law 1159 = .ok (.iadd, 1) := by decide +kernel
theorem dL_law_1160 : decode cL_law 1160 = .ok (.iaload, 1) := by decide +kernel
theorem dL_law_1161 : decode cL_law 1161 = .ok (.aload_n 0, 1) := by decide +kernel
theorem dL_law_1162 : decode cL_law 1162 = .ok (.iload_n 3, 1) := by decide +kernel
theorem dL_law_1163 : decode cL_law 1163 = .ok (.iconst 2, 1) := by decide +kernel
theorem dL_law_1164 : decode cL_law 1164 = .ok (.iadd, 1) := by decide +kernel
theorem dL_law_1165 : decode cL_law 1165 = .ok (.iaload, 1) := by decide +kernel
theorem dL_law_1166 : decode cL_law 1166 = .ok (.aload_n 0, 1) := by decide +kernel
theorem dL_law_1167 : decode cL_law 1167 = .ok (.iload_n 3, 1) := by decide +kernel
theorem dL_law_1168 : decode cL_law 1168 = .ok (.iconst 3, 1) := by decide +kernel
theorem dL_law_1169 : decode cL_law 1169 = .ok (.iadd, 1) := by decide +kernel
theorem dL_law_1170 : decode cL_law 1170 = .ok (.iaload, 1) := by decide +kernel
theorem dL_law_1171 : decode cL_law 1171 = .ok (.invokevirtual 127, 3) := by decide +kernel
theorem dL_law_1174 : decode cL_law 1174 = .ok (.if_icmp .eq 256, 3) := by decide +kernel
theorem dL_law_1177 : decode cL_law 1177 = .ok (.iconst 0, 1) := by decide +kernel
theorem dL_law_1178 : decode cL_law 1178 = .ok (.ireturn, 1) := by decide +kernel
theorem dL_law_1179 : decode cL_law 1179 = .ok (.aload_n 1, 1) := by decide +kernel
theorem dL_law_1180 : decode cL_law 1180 = .ok (.aload_n 0, 1) := by decide +kernel
theorem dL_law_1181 : decode cL_law 1181 = .ok (.iload_n 3, 1) := by decide +kernel
theorem dL_law_1182 : decode cL_law 1182 = .ok (.iconst 1, 1) := by decide +kernel
theorem dL_law_1183 : decode cL_law 1183 = .ok (.iadd, 1) := by decide +kernel
theorem dL_law_1184 : decode cL_law 1184 = .ok (.iaload, 1) := by decide +kernel
theorem dL_law_1185 : decode cL_law 1185 = .ok (.invokevirtual 128, 3) := by decide +kernel
theorem dL_law_1188 : decode cL_law 1188 = .ok (.aload_n 2, 1) := by decide +kernel
theorem dL_law_1189 : decode cL_law 1189 = .ok (.aload_n 0, 1) := by decide +kernel
theorem dL_law_1190 : decode cL_law 1190 = .ok (.iload_n 3, 1) := by decide +kernel
theorem dL_law_1191 : decode cL_law 1191 = .ok (.iconst 1, 1) := by decide +kernel
theorem dL_law_1192 : decode cL_law 1192 = .ok (.iadd, 1) := by decide +kernel
theorem dL_law_1193 : decode cL_law 1193 = .ok (.iaload, 1) := by decide +kernel
theorem dL_law_1194 : decode cL_law 1194 = .ok (.invokevirtual 131, 3) := by decide +kernel
theorem dL_law_1197 : decode cL_law 1197 = .ok (.if_icmp .eq 233, 3) := by decide +kernel
theorem dL_law_1200 : decode cL_law 1200 = .ok (.iconst 0, 1) := by decide +kernel
theorem dL_law_1201 : decode cL_law 1201 = .ok (.ireturn, 1) := by decide +kernel
theorem dL_law_1202 : decode cL_law 1202 = .ok (.aload_n 1, 1) := by decide +kernel
theorem dL_law_1203 : decode cL_law 1203 = .ok (.aload_n 0, 1) := by decide +kernel
theorem dL_law_1204 : decode cL_law 1204 = .ok (.iload_n 3, 1) := by decide +kernel
theorem dL_law_1205 : decode cL_law 1205 = .ok (.iconst 1, 1) := by decide +kernel
theorem dL_law_1206 : decode cL_law 1206 = .ok (.iadd, 1) := by decide +kernel
theorem dL_law_1207 : decode cL_law 1207 = .ok (.iaload, 1) := by decide +kernel
theorem dL_law_1208 : decode cL_law 1208 = .ok (.aload_n 0, 1) := by decide +kernel
theorem dL_law_1209 : decode cL_law 1209 = .ok (.iload_n 3, 1) := by decide +kernel
theorem dL_law_1210 : decode cL_law 1210 = .ok (.iconst 2, 1) := by decide +kernel
theorem dL_law_1211 : decode cL_law 1211 = .ok (.iadd, 1) := by decide +kernel
theorem dL_law_1212 : decode cL_law 1212 = .ok (.iaload, 1) := by decide +kernel
theorem dL_law_1213 : decode cL_law 1213 = .ok (.invokevirtual 132, 3) := by decide +kernel
theorem dL_law_1216 : decode cL_law 1216 = .ok (.aload_n 2, 1) := by decide +kernel
theorem dL_law_1217 : decode cL_law 1217 = .ok (.aload_n 0, 1) := by decide +kernel
theorem dL_law_1218 : decode cL_law 1218 = .ok (.iload_n 3, 1) := by decide +kernel
theorem dL_law_1219 : decode cL_law 1219 = .ok (.iconst 1, 1) := by decide +kernel
theorem dL_law_1220 : decode cL_law 1220 = .ok (.iadd, 1) := by decide +kernel
theorem dL_law_1221 : decode cL_law 1221 = .ok (.iaload, 1) := by decide +kernel
theorem dL_law_1222 : decode cL_law 1222 = .ok (.aload_n 0, 1) := by decide +kernel
theorem dL_law_1223 : decode cL_law 1223 = .ok (.iload_n 3, 1) := by decide +kernel
theorem dL_law_1224 : decode cL_law 1224 = .ok (.iconst 2, 1) := by decide +kernel
theorem dL_law_1225 : decode cL_law 1225 = .ok (.iadd, 1) := by decide +kernel
theorem dL_law_1226 : decode cL_law 1226 = .ok (.iaload, 1) := by decide +kernel
theorem dL_law_1227 : decode cL_law 1227 = .ok (.invokevirtual 135, 3) := by decide +kernel
theorem dL_law_1230 : decode cL_law 1230 = .ok (.if_icmp .eq 200, 3) := by decide +kernel
theorem dL_law_1233 : decode cL_law 1233 = .ok (.iconst 0, 1) := by decide +kernel
theorem dL_law_1234 : decode cL_law 1234 = .ok (.ireturn, 1) := by decide +kernel
theorem dL_law_1235 : decode cL_law 1235 = .ok (.aload_n 1, 1) := by decide +kernel
theorem dL_law_1236 : decode cL_law 1236 = .ok (.aload_n 0, 1) := by decide +kernel
theorem dL_law_1237 : decode cL_law 1237 = .ok (.iload_n 3, 1) := by decide +kernel
theorem dL_law_1238 : decode cL_law 1238 = .ok (.iconst 1, 1) := by decide +kernel
theorem dL_law_1239 : decode cL_law 1239 = .ok (.iadd, 1) := by decide +kernel
theorem dL_law_1240 : decode cL_law 1240 = .ok (.iaload, 1) := by decide +kernel
theorem dL_law_1241 : decode cL_law 1241 = .ok (.aload_n 0, 1) := by decide +kernel
theorem dL_law_1242 : decode cL_law 1242 = .ok (.iload_n 3, 1) := by decide +kernel
theorem dL_law_1243 : decode cL_law 1243 = .ok (.iconst 2, 1) := by decide +kernel
theorem dL_law_1244 : decode cL_law 1244 = .ok (.iadd, 1) := by decide +kernel
theorem dL_law_1245 : decode cL_law 1245 = .ok (.iaload, 1) := by decide +kernel
theorem dL_law_1246 : decode cL_law 1246 = .ok (.aload_n 0, 1) := by decide +kernel
theorem dL_law_1247 : decode cL_law 1247 = .ok (.iload_n 3, 1) := by decide +kernel
theorem dL_law_1248 : decode cL_law 1248 = .ok (.iconst 3, 1) := by decide +kernel
theorem dL_law_1249 : decode cL_law 1249 = .ok (.iadd, 1) := by decide +kernel
theorem dL_law_1250 : decode cL_law 1250 = .ok (.iaload, 1) := by decide +kernel
theorem dL_law_1251 : decode cL_law 1251 = .ok (.aload_n 0, 1) := by decide +kernel
theorem dL_law_1252 : decode cL_law 1252 = .ok (.iload_n 3, 1) := by decide +kernel
theorem dL_law_1253 : decode cL_law 1253 = .ok (.iconst 4, 1) := by decide +kernel
theorem dL_law_1254 : decode cL_law 1254 = .ok (.iadd, 1) := by decide +kernel
theorem dL_law_1255 : decode cL_law 1255 = .ok (.iaload, 1) := by decide +kernel
theorem dL_law_1256 : decode cL_law 1256 = .ok (.aload_n 0, 1) := by decide +kernel
theorem dL_law_1257 : decode cL_law 1257 = .ok (.iload_n 3, 1) := by decide +kernel
theorem dL_law_1258 : decode cL_law 1258 = .ok (.iconst 5, 1) := by decide +kernel
theorem dL_law_1259 : decode cL_law 1259 = .ok (.iadd, 1) := by decide +kernel
theorem dL_law_1260 : decode cL_law 1260 = .ok (.iaload, 1) := by decide +kernel
theorem dL_law_1261 : decode cL_law 1261 = .ok (.invokevirtual 136, 3) := by decide +kernel
theorem dL_law_1264 : decode cL_law 1264 = .ok (.aload_n 2, 1) := by decide +kernel
theorem dL_law_1265 : decode cL_law 1265 = .ok (.aload_n 0, 1) := by decide +kernel
theorem dL_law_1266 : decode cL_law 1266 = .ok (.iload_n 3, 1) := by decide +kernel
theorem dL_law_1267 : decode cL_law 1267 = .ok (.iconst 1, 1) := by decide +kernel
theorem dL_law_1268 : decode cL_law 1268 = .ok (.iadd, 1) := by decide +kernel
theorem dL_law_1269 : decode cL_law 1269 = .ok (.iaload, 1) := by decide +kernel
theorem dL_law_1270 : decode cL_law 1270 = .ok (.aload_n 0, 1) := by decide +kernel
theorem dL_law_1271 : decode cL_law 1271 = .ok (.iload_n 3, 1) := by decide +kernel
theorem dL_law_1272 : decode cL_law 1272 = .ok (.iconst 2, 1) := by decide +kernel
theorem dL_law_1273 : decode cL_law 1273 = .ok (.iadd, 1) := by decide +kernel
theorem dL_law_1274 : decode cL_law 1274 = .ok (.iaload, 1) := by decide +kernel
theorem dL_law_1275 : decode cL_law 1275 = .ok (.aload_n 0, 1) := by decide +kernel
theorem dL_law_1276 : decode cL_law 1276 = .ok (.iload_n 3, 1) := by decide +kernel
theorem dL_law_1277 : decode cL_law 1277 = .ok (.iconst 3, 1) := by decide +kernel
theorem dL_law_1278 : decode cL_law 1278 = .ok (.iadd, 1) := by decide +kernel
theorem dL_law_1279 : decode cL_law 1279 = .ok (.iaload, 1) := by decide +kernel
theorem dL_law_1280 : decode cL_law 1280 = .ok (.aload_n 0, 1) := by decide +kernel
theorem dL_law_1281 : decode cL_law 1281 = .ok (.iload_n 3, 1) := by decide +kernel
theorem dL_law_1282 : decode cL_law 1282 = .ok (.iconst 4, 1) := by decide +kernel
theorem dL_law_1283 : decode cL_law 1283 = .ok (.iadd, 1) := by decide +kernel
theorem dL_law_1284 : decode cL_law 1284 = .ok (.iaload, 1) := by decide +kernel
theorem dL_law_1285 : decode cL_law 1285 = .ok (.aload_n 0, 1) := by decide +kernel
theorem dL_law_1286 : decode cL_law 1286 = .ok (.iload_n 3, 1) := by decide +kernel
theorem dL_law_1287 : decode cL_law 1287 = .ok (.iconst 5, 1) := by decide +kernel
theorem dL_law_1288 : decode cL_law 1288 = .ok (.iadd, 1) := by decide +kernel
theorem dL_law_1289 : decode cL_law 1289 = .ok (.iaload, 1) := by decide +kernel
theorem dL_law_1290 : decode cL_law 1290 = .ok (.invokevirtual 139, 3) := by decide +kernel
theorem dL_law_1293 : decode cL_law 1293 = .ok (.if_icmp .eq 137, 3) := by decide +kernel
theorem dL_law_1296 : decode cL_law 1296 = .ok (.iconst 0, 1) := by decide +kernel
theorem dL_law_1297 : decode cL_law 1297 = .ok (.ireturn, 1) := by decide +kernel
theorem dL_law_1298 : decode cL_law 1298 = .ok (.aload_n 1, 1) := by decide +kernel
theorem dL_law_1299 : decode cL_law 1299 = .ok (.aload_n 0, 1) := by decide +kernel
theorem dL_law_1300 : decode cL_law 1300 = .ok (.iload_n 3, 1) := by decide +kernel
theorem dL_law_1301 : decode cL_law 1301 = .ok (.iconst 1, 1) := by decide +kernel
theorem dL_law_1302 : decode cL_law 1302 = .ok (.iadd, 1) := by decide +kernel
theorem dL_law_1303 : decode cL_law 1303 = .ok (.iaload, 1) := by decide +kernel
theorem dL_law_1304 : decode cL_law 1304 = .ok (.invokevirtual 140, 3) := by decide +kernel
theorem dL_law_1307 : decode cL_law 1307 = .ok (.aload_n 2, 1) := by decide +kernel
theorem dL_law_1308 : decode cL_law 1308 = .ok (.aload_n 0, 1) := by decide +kernel
theorem dL_law_1309 : decode cL_law 1309 = .ok (.iload_n 3, 1) := by decide +kernel
theorem dL_law_1310 : decode cL_law 1310 = .ok (.iconst 1, 1) := by decide +kernel
theorem dL_law_1311 : decode cL_law 1311 = .ok (.iadd, 1) := by decide +kernel
theorem dL_law_1312 : decode cL_law 1312 = .ok (.iaload, 1) := by decide +kernel
theorem dL_law_1313 : decode cL_law 1313 = .ok (.invokevirtual 143, 3) := by decide +kernel
theorem dL_law_1316 : decode cL_law 1316 = .ok (.if_icmp .eq 114, 3) := by decide +kernel
theorem dL_law_1319 : decode cL_law 1319 = .ok (.iconst 0, 1) := by decide +kernel
theorem dL_law_1320 : decode cL_law 1320 = .ok (.ireturn, 1) := by decide +kernel
theorem dL_law_1321 : decode cL_law 1321 = .ok (.aload_n 1, 1) := by decide +kernel
theorem dL_law_1322 : decode cL_law 1322 = .ok (.aload_n 0, 1) := by decide +kernel
theorem dL_law_1323 : decode cL_law 1323 = .ok (.iload_n 3, 1) := by decide +kernel
theorem dL_law_1324 : decode cL_law 1324 = .ok (.iconst 1, 1) := by decide +kernel
theorem dL_law_1325 : decode cL_law 1325 = .ok (.iadd, 1) := by decide +kernel
theorem dL_law_1326 : decode cL_law 1326 = .ok (.iaload, 1) := by decide +kernel
theorem dL_law_1327 : decode cL_law 1327 = .ok (.invokevirtual 144, 3) := by decide +kernel
theorem dL_law_1330 : decode cL_law 1330 = .ok (.aload_n 2, 1) := by decide +kernel
theorem dL_law_1331 : decode cL_law 1331 = .ok (.aload_n 0, 1) := by decide +kernel
theorem dL_law_1332 : decode cL_law 1332 = .ok (.iload_n 3, 1) := by decide +kernel
theorem dL_law_1333 : decode cL_law 1333 = .ok (.iconst 1, 1) := by decide +kernel
theorem dL_law_1334 : decode cL_law 1334 = .ok (.iadd, 1) := by decide +kernel
theorem dL_law_1335 : decode cL_law 1335 = .ok (.iaload, 1) := by decide +kernel
theorem dL_law_1336 : decode cL_law 1336 = .ok (.invokevirtual 147, 3) := by decide +kernel
theorem dL_law_1339 : decode cL_law 1339 = .ok (.if_icmp .eq 91, 3) := by decide +kernel
theorem dL_law_1342 : decode cL_law 1342 = .ok (.iconst 0, 1) := by decide +kernel
theorem dL_law_1343 : decode cL_law 1343 = .ok (.ireturn, 1) := by decide +kernel
theorem dL_law_1344 : decode cL_law 1344 = .ok (.aload_n 1, 1) := by decide +kernel
theorem dL_law_1345 : decode cL_law 1345 = .ok (.invokevirtual 148, 3) := by decide +kernel
theorem dL_law_1348 : decode cL_law 1348 = .ok (.aload_n 2, 1) := by decide +kernel
theorem dL_law_1349 : decode cL_law 1349 = .ok (.invokevirtual 151, 3) := by decide +kernel
theorem dL_law_1352 : decode cL_law 1352 = .ok (.if_icmp .eq 78, 3) := by decide +kernel
theorem dL_law_1355 : decode cL_law 1355 = .ok (.iconst 0, 1) := by decide +kernel
theorem dL_law_1356 : decode cL_law 1356 = .ok (.ireturn, 1) := by decide +kernel
theorem dL_law_1357 : decode cL_law 1357 = .ok (.aload_n 1, 1) := by decide +kernel
theorem dL_law_1358 : decode cL_law 1358 = .ok (.aload_n 0, 1) := by decide +kernel
theorem dL_law_1359 : decode cL_law 1359 = .ok (.iload_n 3, 1) := by decide +kernel
theorem dL_law_1360 : decode cL_law 1360 = .ok (.iconst 1, 1) := by decide +kernel
theorem dL_law_1361 : decode cL_law 1361 = .ok (.iadd, 1) := by decide +kernel
theorem dL_law_1362 : decode cL_law 1362 = .ok (.iaload, 1) := by decide +kernel
theorem dL_law_1363 : decode cL_law 1363 = .ok (.aload_n 0, 1) := by decide +kernel
theorem dL_law_1364 : decode cL_law 1364 = .ok (.iload_n 3, 1) := by decide +kernel
theorem dL_law_1365 : decode cL_law 1365 = .ok (.iconst 2, 1) := by decide +kernel
theorem dL_law_1366 : decode cL_law 1366 = .ok (.iadd, 1) := by decide +kernel
theorem dL_law_1367 : decode cL_law 1367 = .ok (.iaload, 1) := by decide +kernel
theorem dL_law_1368 : decode cL_law 1368 = .ok (.invokevirtual 152, 3) := by decide +kernel
theorem dL_law_1371 : decode cL_law 1371 = .ok (.aload_n 2, 1) := by decide +kernel
theorem dL_law_1372 : decode cL_law 1372 = .ok (.aload_n 0, 1) := by decide +kernel
theorem dL_law_1373 : decode cL_law 1373 = .ok (.iload_n 3, 1) := by decide +kernel
theorem dL_law_1374 : decode cL_law 1374 = .ok (.iconst 1, 1) := by decide +kernel
theorem dL_law_1375 : decode cL_law 1375 = .ok (.iadd, 1) := by decide +kernel
theorem dL_law_1376 : decode cL_law 1376 = .ok (.iaload, 1) := by decide +kernel
theorem dL_law_1377 : decode cL_law 1377 = .ok (.aload_n 0, 1) := by decide +kernel
theorem dL_law_1378 : decode cL_law 1378 = .ok (.iload_n 3, 1) := by decide +kernel
theorem dL_law_1379 : decode cL_law 1379 = .ok (.iconst 2, 1) := by decide +kernel
theorem dL_law_1380 : decode cL_law 1380 = .ok (.iadd, 1) := by decide +kernel
theorem dL_law_1381 : decode cL_law 1381 = .ok (.iaload, 1) := by decide +kernel
theorem dL_law_1382 : decode cL_law 1382 = .ok (.invokevirtual 155, 3) := by decide +kernel
theorem dL_law_1385 : decode cL_law 1385 = .ok (.if_icmp .eq 45, 3) := by decide +kernel
theorem dL_law_1388 : decode cL_law 1388 = .ok (.iconst 0, 1) := by decide +kernel
theorem dL_law_1389 : decode cL_law 1389 = .ok (.ireturn, 1) := by decide +kernel
theorem dL_law_1390 : decode cL_law 1390 = .ok (.aload_n 1, 1) := by decide +kernel
theorem dL_law_1391 : decode cL_law 1391 = .ok (.invokevirtual 156, 3) := by decide +kernel
theorem dL_law_1394 : decode cL_law 1394 = .ok (.aload_n 2, 1) := by decide +kernel
theorem dL_law_1395 : decode cL_law 1395 = .ok (.invokevirtual 160, 3) := by decide +kernel
theorem dL_law_1398 : decode cL_law 1398 = .ok (.lcmp, 1) := by decide +kernel
theorem dL_law_1399 : decode cL_law 1399 = .ok (.ifCond .eq 31, 3) := by decide +kernel
theorem dL_law_1402 : decode cL_law 1402 = .ok (.iconst 0, 1) := by decide +kernel
theorem dL_law_1403 : decode cL_law 1403 = .ok (.ireturn, 1) := by decide +kernel
theorem dL_law_1404 : decode cL_law 1404 = .ok (.aload_n 1, 1) := by decide +kernel
theorem dL_law_1405 : decode cL_law 1405 = .ok (.invokevirtual 161, 3) := by decide +kernel
theorem dL_law_1408 : decode cL_law 1408 = .ok (.aload_n 2, 1) := by decide +kernel
theorem dL_law_1409 : decode cL_law 1409 = .ok (.invokevirtual 164, 3) := by decide +kernel
theorem dL_law_1412 : decode cL_law 1412 = .ok (.if_icmp .eq 18, 3) := by decide +kernel
theorem dL_law_1415 : decode cL_law 1415 = .ok (.iconst 0, 1) := by decide +kernel
theorem dL_law_1416 : decode cL_law 1416 = .ok (.ireturn, 1) := by decide +kernel
theorem dL_law_1417 : decode cL_law 1417 = .ok (.aload_n 1, 1) := by decide +kernel
theorem dL_law_1418 : decode cL_law 1418 = .ok (.invokevirtual 165, 3) := by decide +kernel
theorem dL_law_1421 : decode cL_law 1421 = .ok (.aload_n 2, 1) := by decide +kernel
theorem dL_law_1422 : decode cL_law 1422 = .ok (.invokevirtual 168, 3) := by decide +kernel
theorem dL_law_1425 : decode cL_law 1425 = .ok (.if_icmp .eq 5, 3) := by decide +kernel
theorem dL_law_1428 : decode cL_law 1428 = .ok (.iconst 0, 1) := by decide +kernel
theorem dL_law_1429 : decode cL_law 1429 = .ok (.ireturn, 1) := by decide +kernel
theorem dL_law_1430 : decode cL_law 1430 = .ok (.iinc 3 7, 3) := by decide +kernel
theorem dL_law_1433 : decode cL_law 1433 = .ok (.goto (-1415), 3) := by decide +kernel
theorem dL_law_1436 : decode cL_law 1436 = .ok (.iconst 1, 1) := by decide +kernel
theorem dL_law_1437 : decode cL_law 1437 = .ok (.ireturn, 1) := by decide +kernel
abbrev vwCl : List vw_C := [(RX0, TX0, 4), (RX1, TX1, 7), (RX3, TX3, 3), (RX4, TX4, 4), (RX5, TX5, 3), (RX6, TX6, 13), (RX7, TX7, 26)]
end
section
/-! A layer over the kit's rows: a class's objects as a fixed layout, their contents as one function; a frame as lists. -/
def gw : List Cond := lw_tbl.filter goodWord
theorem gw_in {w : Cond} (h : w ∈ gw) : w ∈ lw_tbl := (List.mem_filter.mp h).1
theorem gw_good : GoodIn gw gw := fun w h => ⟨h, good_of_word (List.mem_filter.mp h).2⟩
theorem gw_code {y : MethodName} {cc : ByteArray} {nL : Nat} {ret : Option FieldType} (h : Cond.code y cc nL ret ∈ gw) : GoodIn gw (Cond.code y cc nL ret :: gw) := fun w hw => by
  rcases List.mem_cons.mp hw with rfl | h1
  · exact gw_good _ h
  · exact gw_good _ h1
abbrev Mem := Nat → Nat → Int32
abbrev Lay := (Nat × List (Option Nat)) ⊕ ((Nat × Nat) ⊕ (Nat × List Nat))
def cv (ad : Nat → Nat) : Value → Value
  | .ref k => .ref (ad k)
  | .int x => .int x
  | .long x => .long x
  | v => v
theorem cv_cat {ad : Nat → Nat} (v : Value) : (cv ad v).category = v.category := by cases v <;> rfl
def fdV (ad : Nat → Nat) (f : Nat → Int32) (i : Nat) : Option Nat → Value
  | some j => .ref (ad j)
  | none => .int (f i)
def fsV (ad : Nat → Nat) (f : Nat → Int32) (fl : List (Option Nat)) : List Value := (List.range fl.length).map (fun i => fdV ad f i (fl.getD i none))
def ce (ad : Nat → Nat) (cy : Nat → ClassId) (f : Nat → Int32) : Lay → va_E
  | .inl o => .inr (o.1, fsV ad f o.2)
  | .inr (.inl a) => .inl (cy a.1, a.2, .inl f)
  | .inr (.inr a) => .inl (cy a.1, a.2.length, .inr (.inr (.inr (.inr (fun i => a.2[i]?.map ad)))))
def WS (obj : Nat → Lay) (N : Nat) (ad : Nat → Nat) (cy : Nat → ClassId) (σ : Mem) : va_W := (List.range N).map (fun k => (ad k, ce ad cy (σ k) (obj k)))
def updR (σ : Mem) (k : Nat) (g : Nat → Int32) : Mem := fun j => if j = k then g else σ j
theorem updR_s {σ : Mem} {k : Nat} {g : Nat → Int32} : updR σ k g k = g := if_pos rfl
theorem updR_n {σ : Mem} {k j : Nat} {g : Nat → Int32} (h : j ≠ k) : updR σ k g j = σ j := if_neg h
theorem WS_get {obj : Nat → Lay} {N : Nat} {ad : Nat → Nat} {cy : Nat → ClassId} {σ : Mem} {k : Nat} (h : k < N) : (WS obj N ad cy σ)[k]? = some (ad k, ce ad cy (σ k) (obj k)) := by
  simp [WS, h]
theorem WS_set {obj : Nat → Lay} {N : Nat} {ad : Nat → Nat} {cy : Nat → ClassId} {σ : Mem} {k : Nat} (g : Nat → Int32) (h : k < N) : (WS obj N ad cy σ).set k (ad k, ce ad cy g (obj k)) = WS obj N ad cy (updR σ k g) := by
  apply List.ext_getElem?
  intro i
  rw [List.getElem?_set]
  by_cases hi : k = i
  · subst hi
    simp [WS, h, updR]
  · rw [if_neg hi]
    by_cases hN : i < N
    · rw [WS_get hN, WS_get hN, updR_n (Ne.symm hi)]
    · simp [WS, hN]
theorem WS_D {obj : Nat → Lay} {N : Nat} {ad : Nat → Nat} {cy : Nat → ClassId} {σ σ' : Mem} {A : Nat → Prop} (h : va_D A (WS obj N ad cy σ)) : va_D A (WS obj N ad cy σ') := by
  have key : ∀ (k : Nat) (q : Nat × va_E), (WS obj N ad cy σ')[k]? = some q → ∃ q0, (WS obj N ad cy σ)[k]? = some q0 ∧ q0.1 = q.1 := by
    intro k q hq
    by_cases hk : k < N
    · rw [WS_get hk] at hq
      cases hq
      exact ⟨_, WS_get hk, rfl⟩
    · simp [WS, hk] at hq
  refine ⟨fun i j x y hi hj hxy => ?_, fun k q hk => ?_⟩
  · obtain ⟨x0, h1, h2⟩ := key i x hi
    obtain ⟨y0, h3, h4⟩ := key j y hj
    exact h.1 i j x0 y0 h1 h3 (h2.trans (hxy.trans h4.symm))
  · obtain ⟨q0, h1, h2⟩ := key k q hk
    rw [← h2]
    exact h.2 k q0 h1
theorem WS_A {obj : Nat → Lay} {N : Nat} {ad : Nat → Nat} {cy : Nat → ClassId} {σ : Mem} {A0 : Nat → Prop} {H0 H : Heap} {locs : List Loc} (hD : va_D A0 (WS obj N ad cy σ)) (hS : va_S A0 H0 H locs) (hA : ∀ q, H0.size ≤ q → A0 q) : ∀ q, va_A (WS obj N ad cy σ) H.size q → A0 q := by
  intro q h
  rcases h with ⟨k, e, h⟩ | h
  · exact hD.2 k (q, e) h
  · exact hA q (Nat.le_trans hS.1 h)
theorem fsV_get {ad : Nat → Nat} {f : Nat → Int32} {fl : List (Option Nat)} {i : Nat} {o : Option Nat} (h : fl[i]? = some o) : (fsV ad f fl)[i]? = some (fdV ad f i o) := by
  obtain ⟨hi, he⟩ := List.getElem?_eq_some_iff.mp h
  simp [fsV, hi, List.getD, he]
theorem fsV_set {ad : Nat → Nat} {f : Nat → Int32} {fl : List (Option Nat)} {i : Nat} (x : Int32) (h : fl[i]? = some none) : (fsV ad f fl).set i (.int x) = fsV ad (upd f i x) fl := by
  have hi := (List.getElem?_eq_some_iff.mp h).1
  apply List.ext_getElem?
  intro j
  rw [List.getElem?_set]
  by_cases hj : i = j
  · subst hj
    rw [if_pos rfl, fsV_get h]
    simp [fsV, hi, fdV, upd]
  · rw [if_neg hj]
    by_cases hl : j < fl.length
    · have e := List.getElem?_eq_getElem hl
      rw [fsV_get e, fsV_get e]
      cases fl[j] with
      | none => simp [fdV, upd, Ne.symm hj]
      | some k => rfl
    · simp [fsV, hl]
theorem fsV_len {ad : Nat → Nat} {f : Nat → Int32} {fl : List (Option Nat)} : (fsV ad f fl).length = fl.length := by simp [fsV]
/-- the locals, listed -/
def asc (ad : Nat → Nat) (lv : List (Option Value)) : List (Nat × Value) := (List.range lv.length).filterMap (fun i => (lv.getD i none).map (fun v => (i, cv ad v)))
theorem asc_mem {ad : Nat → Nat} {lv : List (Option Value)} {q : Nat × Value} : q ∈ asc ad lv ↔ ∃ v, lv[q.1]? = some (some v) ∧ q.2 = cv ad v := by
  unfold asc
  rw [List.mem_filterMap]
  constructor
  · rintro ⟨i, hi, h⟩
    have hl := List.mem_range.mp hi
    rw [List.getD_eq_getElem?_getD, List.getElem?_eq_getElem hl] at h
    obtain ⟨v, h1, h2⟩ := Option.map_eq_some_iff.mp h
    subst h2
    exact ⟨v, by rw [List.getElem?_eq_getElem hl]; exact congrArg some h1, rfl⟩
  · rintro ⟨v, h1, h2⟩
    have hl := (List.getElem?_eq_some_iff.mp h1).1
    refine ⟨q.1, List.mem_range.mpr hl, ?_⟩
    rw [List.getD_eq_getElem?_getD, h1]
    obtain ⟨a, b⟩ := q
    simp only at h2
    subst h2
    rfl
def LH (ad : Nat → Nat) (nL : Nat) (lv : List (Option Value)) (ls : Array Slot) : Prop := lv_has ls nL (asc ad lv)
theorem LH_at {ad : Nat → Nat} {nL : Nat} {lv : List (Option Value)} {ls : Array Slot} (h : LH ad nL lv ls) {i : Nat} {v : Value} (hv : lv[i]? = some (some v)) : ls[i]? = some (.val (cv ad v)) := h.2.2 (i, cv ad v) (asc_mem.mpr ⟨v, hv, rfl⟩)
def nlong (lv : List (Option Value)) : Nat → Bool
  | 0 => true
  | i + 1 => match lv[i]? with
    | some (some v) => v.category != 2
    | _ => true
theorem LH_set {ad : Nat → Nat} {nL : Nat} {lv lv' : List (Option Value)} {i : Nat} {v : Value} (hn : nlong lv i = true) (hl : lv.set i (some v) = lv') {ls' : Array Slot}
    (h : lv_has ls' nL ((i, cv ad v) :: (asc ad lv).filter (fun q => !(q.1 == i) && !(q.1 + 1 == i && q.2.category == 2)))) : LH ad nL lv' ls' := by
  subst hl
  refine ⟨h.1, h.2.1, fun q hq => ?_⟩
  obtain ⟨w, h1, h2⟩ := asc_mem.mp hq
  obtain ⟨a, b⟩ := q
  simp only at h1 h2
  subst h2
  rw [List.getElem?_set] at h1
  by_cases ha : i = a
  · subst ha
    rw [if_pos rfl] at h1
    split at h1
    · cases h1
      exact h.2.2 _ List.mem_cons_self
    · cases h1
  · rw [if_neg ha] at h1
    refine h.2.2 _ (List.mem_cons_of_mem _ (List.mem_filter.mpr ⟨asc_mem.mpr ⟨w, h1, rfl⟩, ?_⟩))
    simp only [cv_cat]
    by_cases h3 : a + 1 = i
    · subst h3
      simp only [nlong, h1, bne_iff_ne, ne_eq] at hn
      simp [Ne.symm ha, hn]
    · simp [Ne.symm ha, h3]
theorem lv_args_mem (vs : List Value) (hc : ∀ v ∈ vs, v.category = 1) : ∀ (k i : Nat) (v : Value), vs[i]? = some v → (k + i, v) ∈ lv_args k vs := by
  induction vs with
  | nil => intro k i v h; simp at h
  | cons a l ih =>
    intro k i v h
    have ha : a.category = 1 := hc a List.mem_cons_self
    show (k + i, v) ∈ (k, a) :: lv_args (if a.category = 2 then k + 2 else k + 1) l
    rw [if_neg (by rw [ha]; decide)]
    cases i with
    | zero =>
      rw [List.getElem?_cons_zero] at h
      cases h
      exact List.mem_cons_self
    | succ i =>
      rw [List.getElem?_cons_succ] at h
      have := ih (fun v hv => hc v (List.mem_cons_of_mem _ hv)) (k + 1) i v h
      rw [show k + (i + 1) = k + 1 + i by omega]
      exact List.mem_cons_of_mem _ this
def lv0 (av : List Value) (nL : Nat) : List (Option Value) := av.map some ++ List.replicate (nL - av.length) none
theorem LH_0 {ad : Nat → Nat} {nL : Nat} {av : List Value} (hc : ∀ v ∈ av, v.category = 1) {ls : Array Slot} (h : lv_has ls nL (lv_args 0 (av.map (cv ad)))) : LH ad nL (lv0 av nL) ls := by
  refine ⟨h.1, h.2.1, fun q hq => ?_⟩
  obtain ⟨w, h1, h2⟩ := asc_mem.mp hq
  obtain ⟨a, b⟩ := q
  simp only at h1 h2
  subst h2
  have h3 : av[a]? = some w := by
    unfold lv0 at h1
    by_cases ha : a < av.length
    · rw [List.getElem?_append_left (by simpa using ha), List.getElem?_map] at h1
      cases hv : av[a]? with
      | none => rw [hv] at h1; cases h1
      | some z => rw [hv] at h1; cases h1; rfl
    · rw [List.getElem?_append_right (by simpa using ha)] at h1
      have := List.getElem?_replicate (a := (none : Option Value)) (n := nL - av.length) (i := a - (av.map some).length)
      rw [this] at h1
      split at h1 <;> cases h1
  have h4 := lv_args_mem (av.map (cv ad)) (fun v hv => by
    obtain ⟨u, hu, rfl⟩ := List.mem_map.mp hv
    rw [cv_cat]; exact hc u hu) 0 a (cv ad w) (by rw [List.getElem?_map, h3]; rfl)
  rw [Nat.zero_add] at h4
  exact h.2.2 _ h4
/-- what private members of nest mates need of the tables -/
def nestW : List Cond := lw_tbl.filter (fun w => match w with | .methodLinkNest _ _ _ _ => true | _ => false)
def Nst (U : State) : Prop := ∀ w ∈ nestW, va_Nw w U
theorem Nst.warm {s U : State} (hW : s.WarmedH U.vm) (h : Nst s) : Nst U := fun w hw => by
  have h0 := h w hw
  have h1 := (List.mem_filter.mp hw).2
  cases w <;> first | (cases h1; done) | exact va_Nw.warmM hW h0
theorem Nst.same {u U : State} (hvm : u.vm = U.vm) (h : Nst u) : Nst U := fun w hw => by
  have h0 := h w hw
  have h1 := (List.mem_filter.mp hw).2
  cases w <;> first | (cases h1; done) | exact va_Nw.same rfl hvm h0
theorem Nst.of {args : Array Value} {s : State} (h : ∀ w ∈ lw_tbl, w.before args s = true) : Nst s := fun w hw => by
  have h0 := h w (List.mem_filter.mp hw).1
  have h1 := (List.mem_filter.mp hw).2
  cases w <;> first | (cases h1; done) | exact va_Nw.of rfl h0
def tyL (cy : Nat → ClassId) : List (ClassId × FieldType) := [(cy 0, .int), (cy 1, .boolean), (cy 2, .char), (cy 3, .array .int), (cy 4, .object RX5)]
def rmOf (fr lo : Nat) : Room := { frames := fr, cells := 0, slots := 0, locals := lo }
/-- all that a walk holds fixed -/
abbrev GX := Program × Launch × Env × Room × State × MethodId × Array Value × List Frame × Method × Code × Nat × (Nat → Nat) × va_G × (Nat → ClassId) × (Nat → Prop) × (State → Prop)
def OkX (obj : Nat → Lay) (N : Nat) (cc : ByteArray) (nL : Nat) (own : String) (fr lo : Nat) : GX → Prop
  | (p, l, e, R, s, m, args, below, meth, c, nL', ad, D, cy, A, Q) =>
    p.tables.exec = Jvm.exec ∧ c.code = cc ∧ c.maxLocals = nL ∧ nL' = nL ∧ s.vm.findClass own = some m.cls ∧ (∀ w ∈ gw, w.before args s = true) ∧ (va_K D vwCl (tyL cy) s ∧ Nst s) ∧ (∀ q : Nat, s.heap.size ≤ q → A q) ∧ meth.locks = false ∧ R = rmOf fr lo
def Go (obj : Nat → Lay) (N : Nat) : GX → Nat → List (Option Value) → List Value → Mem → Prop
  | (p, l, e, R, s, m, args, below, meth, c, nL, ad, D, cy, A, Q), pc, lv, st, σ =>
    ∀ (H : Heap) (locs : List Loc) (ls : Array Slot), va_P D vwCl (WS obj N ad cy σ) H → va_D A (WS obj N ad cy σ) → va_S A s.heap H locs → LH ad nL lv ls →
      W p l e R s m args below meth c H locs 0 0 Q (F0 m pc ls (st.map (cv ad)))
def CtB (obj : Nat → Lay) (N : Nat) (D : va_G) (cy : Nat → ClassId) (ad : Nat → Nat) (sz : Nat) (σ : Mem) : State → Prop := fun U => U.heap.size = sz ∧ va_P D vwCl (WS obj N ad cy σ) U.heap ∧ (va_K D vwCl (tyL cy) U ∧ Nst U) ∧ va_D (fun _ => True) (WS obj N ad cy σ)
def CtE (obj : Nat → Lay) (N : Nat) (D : va_G) (cy : Nat → ClassId) (ad : Nat → Nat) (σ : Mem) : State → Prop := fun t => va_P D vwCl (WS obj N ad cy σ) t.heap
def CtI (obj : Nat → Lay) (N : Nat) (y : MethodName) (cc : ByteArray) (nL : Nat) (ret : FieldType) (fr lo : Nat) (av : List Value) (σ : Mem) (post : Int32 → Mem → Prop) : Prop :=
  ∀ (l : Launch) (D : va_G) (cy : Nat → ClassId) (ad : Nat → Nat) (sz : Nat), Met l y (.code y cc nL (some ret) :: gw) (rmOf fr lo) (va_Pc (av.map (cv ad)) (CtB obj N D cy ad sz σ)) (va_Qi post (CtE obj N D cy ad) (va_A (WS obj N ad cy σ) sz)) 0 0 (va_A (WS obj N ad cy σ) sz)
def CtV (obj : Nat → Lay) (N : Nat) (y : MethodName) (cc : ByteArray) (nL : Nat) (fr lo : Nat) (av : List Value) (σ : Mem) (post : Mem → Prop) : Prop :=
  ∀ (l : Launch) (D : va_G) (cy : Nat → ClassId) (ad : Nat → Nat) (sz : Nat), Met l y (.code y cc nL none :: gw) (rmOf fr lo) (va_Pc (av.map (cv ad)) (CtB obj N D cy ad sz σ)) (va_Qv post (CtE obj N D cy ad) (va_A (WS obj N ad cy σ) sz)) 0 0 (va_A (WS obj N ad cy σ) sz)
def CtL (obj : Nat → Lay) (N : Nat) (y : MethodName) (cc : ByteArray) (nL : Nat) (fr lo : Nat) (av : List Value) (σ : Mem) (post : Int64 → Mem → Prop) : Prop :=
  ∀ (l : Launch) (D : va_G) (cy : Nat → ClassId) (ad : Nat → Nat) (sz : Nat), Met l y (.code y cc nL (some .long) :: gw) (rmOf fr lo) (va_Pc (av.map (cv ad)) (CtB obj N D cy ad sz σ)) (va_Ql post (CtE obj N D cy ad) (va_A (WS obj N ad cy σ) sz)) 0 0 (va_A (WS obj N ad cy σ) sz)
theorem CtB.blind {obj : Nat → Lay} {N : Nat} {D : va_G} {cy : Nat → ClassId} {ad : Nat → Nat} {sz : Nat} {σ : Mem} {av : List Value} : FrameBlind (va_Pc av (CtB obj N D cy ad sz σ)) := fun a U g mk q => by
  obtain ⟨q0, q1, qP, ⟨qK, qN⟩, qD⟩ := q
  exact ⟨q0, q1, qP, ⟨va_K.moved (u := U) (U := U.calling g mk a) (Vm.Alike.refl U.vm) qK, Nst.same (u := U) (U := U.calling g mk a) rfl qN⟩, qD⟩
/-- ends -/
def RI (obj : Nat → Lay) (N : Nat) (cc : ByteArray) (ret : FieldType) (X : GX) (post : Int32 → Mem → Prop) : Prop := ∀ (pc : Nat) (lv : List (Option Value)) (x : Int32) (σ : Mem), decode cc pc = .ok (.ireturn, 1) → narrow ret (.int x) = .int x → post x σ → Go obj N X pc lv [.int x] σ
def RV (obj : Nat → Lay) (N : Nat) (cc : ByteArray) (X : GX) (post : Mem → Prop) : Prop := ∀ (pc : Nat) (lv : List (Option Value)) (σ : Mem), decode cc pc = .ok (.return_, 1) → post σ → Go obj N X pc lv [] σ
def RLg (obj : Nat → Lay) (N : Nat) (cc : ByteArray) (X : GX) (post : Int64 → Mem → Prop) : Prop := ∀ (pc : Nat) (lv : List (Option Value)) (x : Int64) (σ : Mem), decode cc pc = .ok (.lreturn, 1) → post x σ → Go obj N X pc lv [.long x] σ
section CTOF
variable {obj : Nat → Lay} {N : Nat} {y : MethodName} {cc : ByteArray} {nL : Nat} {fr lo : Nat} {av : List Value} {σ : Mem}
theorem ct_enter {l : Launch} {D : va_G} {cy : Nat → ClassId} {ad : Nat → Nat} {sz : Nat} {ret : Option FieldType} {Qc : Array Value → State → Outcome → State → Prop} (hy : plainName y.cls = true) (hc : ∀ v ∈ av, v.category = 1) (hL : av.length ≤ nL)
    (body : ∀ (X : GX), OkX obj N cc nL y.cls fr lo X → (∀ (p : Program) (e : Env) (s : State) (m : MethodId) (args : Array Value) (below : List Frame) (meth : Method) (c : Code), X = (p, l, e, rmOf fr lo, s, m, args, below, meth, c, nL, ad, D, cy, va_A (WS obj N ad cy σ) sz, MQ below Qc args s 0 0 (va_A (WS obj N ad cy σ) sz)) → p.tables.exec = Jvm.exec → c.code = cc → meth.sig.returnType = ret → meth.locks = false → s.heap.size = sz → Go obj N X 0 (lv0 av nL) [] σ)) :
    Met l y (.code y cc nL ret :: gw) (rmOf fr lo) (va_Pc (av.map (cv ad)) (CtB obj N D cy ad sz σ)) Qc 0 0 (va_A (WS obj N ad cy σ) sz) := by
  refine Met.ofW (cc := cc) (maxL := nL) (ret := ret) hy rfl ?_
  intro p e s m args below meth c s₁ B hml hv
  obtain ⟨rfl, hsz, hP, hK, hD0⟩ := hv
  have hx := B.exec
  have hb := B.bytes
  have hr := B.returns
  have hts := atoms_spec (ws := .code y cc nL ret :: gw) B.pre
  have hown : s.vm.findClass y.cls = some m.cls := findClass_of_methodNamed B.named
  have hlocks := B.notSynchronized
  have hD : va_D (va_A (WS obj N ad cy σ) sz) (WS obj N ad cy σ) := hD0.self
  have hlen : (lg_sl (av.map (cv ad))).length ≤ nL := by
    have : ∀ vs : List Value, (∀ v ∈ vs, v.category = 1) → (lg_sl vs).length = vs.length := by
      intro vs
      induction vs with
      | nil => intro _; rfl
      | cons a t ih =>
        intro h
        have ha := h a List.mem_cons_self
        have := ih (fun v hv => h v (List.mem_cons_of_mem _ hv))
        simp only [lg_sl, List.flatMap_cons, List.length_append, List.length_cons] at this ⊢
        rw [if_neg (by rw [ha]; decide), this]
        simp only [List.length_cons, List.length_nil]
        omega
    rw [this _ (fun v hv => by obtain ⟨u, hu, rfl⟩ := List.mem_map.mp hv; rw [cv_cat]; exact hc u hu), List.length_map]
    exact hL
  have hl := lv_entry (av.map (cv ad)) (n := nL) hlen
  rw [lg_entry_eq]
  exact body _ ⟨hx, hb, hml, rfl, hown, fun w hw => hts w (List.mem_cons_of_mem _ hw), hK, fun q h => Or.inr (hsz ▸ h), hlocks, rfl⟩ p e s m _ below meth c rfl hx hb hr hlocks hsz s.heap [] _ hP hD va_S.rf (LH_0 hc hl)
theorem ct_ofI {ret : FieldType} {post : Int32 → Mem → Prop} (hy : plainName y.cls = true) (hc : ∀ v ∈ av, v.category = 1) (hL : av.length ≤ nL) (body : ∀ (X : GX), OkX obj N cc nL y.cls fr lo X → RI obj N cc ret X post → Go obj N X 0 (lv0 av nL) [] σ) : CtI obj N y cc nL ret fr lo av σ post := by
  intro l D cy ad sz
  refine ct_enter hy hc hL ?_
  intro X C p e s m args below meth c hX hx hb hr hlocks hsz
  refine body X C ?_
  subst hX
  intro pc lv x σ' d hn hp H locs ls hP hD hS hl
  exact W.zret hx hb hr hn (fun t ht hW => ⟨⟨x, σ', rfl, hp, by unfold CtE; rw [ht]; exact hP⟩, hS.F ht⟩) hS.2.2 d hlocks
theorem ct_ofV {post : Mem → Prop} (hy : plainName y.cls = true) (hc : ∀ v ∈ av, v.category = 1) (hL : av.length ≤ nL) (body : ∀ (X : GX), OkX obj N cc nL y.cls fr lo X → RV obj N cc X post → Go obj N X 0 (lv0 av nL) [] σ) : CtV obj N y cc nL fr lo av σ post := by
  intro l D cy ad sz
  refine ct_enter hy hc hL ?_
  intro X C p e s m args below meth c hX hx hb hr hlocks hsz
  refine body X C ?_
  subst hX
  intro pc lv σ' d hp H locs ls hP hD hS hl
  exact W.vret hx hb hr (fun t ht hW => ⟨⟨σ', rfl, hp, by unfold CtE; rw [ht]; exact hP⟩, hS.F ht⟩) hS.2.2 d hlocks
theorem ct_ofL {post : Int64 → Mem → Prop} (hy : plainName y.cls = true) (hc : ∀ v ∈ av, v.category = 1) (hL : av.length ≤ nL) (body : ∀ (X : GX), OkX obj N cc nL y.cls fr lo X → RLg obj N cc X post → Go obj N X 0 (lv0 av nL) [] σ) : CtL obj N y cc nL fr lo av σ post := by
  intro l D cy ad sz
  refine ct_enter hy hc hL ?_
  intro X C p e s m args below meth c hX hx hb hr hlocks hsz
  refine body X C ?_
  subst hX
  intro pc lv x σ' d hp H locs ls hP hD hS hl
  exact W.lret hx hb hr (fun t ht hW => ⟨⟨x, σ', rfl, hp, by unfold CtE; rw [ht]; exact hP⟩, hS.F ht⟩) hS.2.2 d hlocks
end CTOF
end
section
/-! One row an instruction, over the layer. -/
section GO
variable {obj : Nat → Lay} {N : Nat} {cc : ByteArray} {nL : Nat} {own : String} {fr lo : Nat} {X : GX} {pc : Nat} {lv : List (Option Value)} {st : List Value} {σ : Mem}
theorem go_iload_n (C : OkX obj N cc nL own fr lo X) {x : Int32} {k : Fin 4} (d : decode cc pc = .ok (.iload_n k, 1)) (hv : lv[(k : Nat)]? = some (some (.int x))) (kk : Go obj N X (pc + 1) lv (.int x :: st) σ) : Go obj N X pc lv st σ := by
  obtain ⟨p, l, e, R, s, m, args, below, meth, c, nL', ad, D, cy, A, Q⟩ := X
  obtain ⟨hx, hb, hml, rfl, hown, hts, ⟨hK, hN⟩, hA, hlk, rfl⟩ := C
  intro H locs ls hP hD hS hl
  exact lv_iload_n hx hb d rfl (LH_at hl hv) (kk H locs ls hP hD hS hl)
theorem go_iload (C : OkX obj N cc nL own fr lo X) {x : Int32} {i : Nat} (d : decode cc pc = .ok (.iload i, 2)) (hv : lv[i]? = some (some (.int x))) (kk : Go obj N X (pc + 2) lv (.int x :: st) σ) : Go obj N X pc lv st σ := by
  obtain ⟨p, l, e, R, s, m, args, below, meth, c, nL', ad, D, cy, A, Q⟩ := X
  obtain ⟨hx, hb, hml, rfl, hown, hts, ⟨hK, hN⟩, hA, hlk, rfl⟩ := C
  intro H locs ls hP hD hS hl
  exact lv_iload hx hb d (LH_at hl hv) (kk H locs ls hP hD hS hl)
theorem go_aload_n (C : OkX obj N cc nL own fr lo X) {x : Nat} {k : Fin 4} (d : decode cc pc = .ok (.aload_n k, 1)) (hv : lv[(k : Nat)]? = some (some (.ref x))) (kk : Go obj N X (pc + 1) lv (.ref x :: st) σ) : Go obj N X pc lv st σ := by
  obtain ⟨p, l, e, R, s, m, args, below, meth, c, nL', ad, D, cy, A, Q⟩ := X
  obtain ⟨hx, hb, hml, rfl, hown, hts, ⟨hK, hN⟩, hA, hlk, rfl⟩ := C
  intro H locs ls hP hD hS hl
  exact lv_aload_n hx hb d rfl (LH_at hl hv) (kk H locs ls hP hD hS hl)
theorem go_aload (C : OkX obj N cc nL own fr lo X) {x : Nat} {i : Nat} (d : decode cc pc = .ok (.aload i, 2)) (hv : lv[i]? = some (some (.ref x))) (kk : Go obj N X (pc + 2) lv (.ref x :: st) σ) : Go obj N X pc lv st σ := by
  obtain ⟨p, l, e, R, s, m, args, below, meth, c, nL', ad, D, cy, A, Q⟩ := X
  obtain ⟨hx, hb, hml, rfl, hown, hts, ⟨hK, hN⟩, hA, hlk, rfl⟩ := C
  intro H locs ls hP hD hS hl
  exact lv_aload hx hb d (LH_at hl hv) (kk H locs ls hP hD hS hl)
theorem go_lload_n (C : OkX obj N cc nL own fr lo X) {x : Int64} {k : Fin 4} (d : decode cc pc = .ok (.lload_n k, 1)) (hv : lv[(k : Nat)]? = some (some (.long x))) (kk : Go obj N X (pc + 1) lv (.long x :: st) σ) : Go obj N X pc lv st σ := by
  obtain ⟨p, l, e, R, s, m, args, below, meth, c, nL', ad, D, cy, A, Q⟩ := X
  obtain ⟨hx, hb, hml, rfl, hown, hts, ⟨hK, hN⟩, hA, hlk, rfl⟩ := C
  intro H locs ls hP hD hS hl
  exact lv_lload_n hx hb d rfl (LH_at hl hv) (kk H locs ls hP hD hS hl)
theorem go_iconst (C : OkX obj N cc nL own fr lo X) (x : Int32) {n : Int} (d : decode cc pc = .ok (.iconst n, 1)) (hv : Int32.ofInt n = x) (kk : Go obj N X (pc + 1) lv (.int x :: st) σ) : Go obj N X pc lv st σ := by
  obtain ⟨p, l, e, R, s, m, args, below, meth, c, nL', ad, D, cy, A, Q⟩ := X
  obtain ⟨hx, hb, hml, rfl, hown, hts, ⟨hK, hN⟩, hA, hlk, rfl⟩ := C
  intro H locs ls hP hD hS hl
  exact lv_iconst hx hb d hv (kk H locs ls hP hD hS hl)
theorem go_bipush (C : OkX obj N cc nL own fr lo X) (x : Int32) {n : Int} (d : decode cc pc = .ok (.bipush n, 2)) (hv : (Int8.ofInt n).toInt32 = x) (kk : Go obj N X (pc + 2) lv (.int x :: st) σ) : Go obj N X pc lv st σ := by
  obtain ⟨p, l, e, R, s, m, args, below, meth, c, nL', ad, D, cy, A, Q⟩ := X
  obtain ⟨hx, hb, hml, rfl, hown, hts, ⟨hK, hN⟩, hA, hlk, rfl⟩ := C
  intro H locs ls hP hD hS hl
  exact lv_bipush hx hb d hv (kk H locs ls hP hD hS hl)
theorem go_sipush (C : OkX obj N cc nL own fr lo X) (x : Int32) {n : Int} (d : decode cc pc = .ok (.sipush n, 3)) (hv : (Int16.ofInt n).toInt32 = x) (kk : Go obj N X (pc + 3) lv (.int x :: st) σ) : Go obj N X pc lv st σ := by
  obtain ⟨p, l, e, R, s, m, args, below, meth, c, nL', ad, D, cy, A, Q⟩ := X
  obtain ⟨hx, hb, hml, rfl, hown, hts, ⟨hK, hN⟩, hA, hlk, rfl⟩ := C
  intro H locs ls hP hD hS hl
  exact lv_sipush hx hb d hv (kk H locs ls hP hD hS hl)
theorem go_ldc2 (C : OkX obj N cc nL own fr lo X) (x : Int64) {index : Nat} (hw : Cond.constantLong own index x ∈ gw) (d : decode cc pc = .ok (.ldc2_w index, 3)) (kk : Go obj N X (pc + 3) lv (.long x :: st) σ) : Go obj N X pc lv st σ := by
  obtain ⟨p, l, e, R, s, m, args, below, meth, c, nL', ad, D, cy, A, Q⟩ := X
  obtain ⟨hx, hb, hml, rfl, hown, hts, ⟨hK, hN⟩, hA, hlk, rfl⟩ := C
  intro H locs ls hP hD hS hl
  exact lv_ldc2 hx hb hown (hts _ hw) d (kk H locs ls hP hD hS hl)
theorem go_istore_n (C : OkX obj N cc nL own fr lo X) {x : Int32} {k : Fin 4} {lv1 : List (Option Value)} (d : decode cc pc = .ok (.istore_n k, 1)) (hn : (k : Nat) < nL) (hg : nlong lv (k : Nat) = true) (hlv : lv.set (k : Nat) (some (.int x)) = lv1) (kk : Go obj N X (pc + 1) lv1 st σ) : Go obj N X pc lv (.int x :: st) σ := by
  obtain ⟨p, l, e, R, s, m, args, below, meth, c, nL', ad, D, cy, A, Q⟩ := X
  obtain ⟨hx, hb, hml, rfl, hown, hts, ⟨hK, hN⟩, hA, hlk, rfl⟩ := C
  intro H locs ls hP hD hS hl
  exact lv_istore_n hx hb d rfl hl hn rfl (fun ls hl => kk H locs ls hP hD hS (LH_set hg hlv hl))
theorem go_istore (C : OkX obj N cc nL own fr lo X) {x : Int32} {i : Nat} {lv1 : List (Option Value)} (d : decode cc pc = .ok (.istore i, 2)) (hn : i < nL) (hg : nlong lv i = true) (hlv : lv.set i (some (.int x)) = lv1) (kk : Go obj N X (pc + 2) lv1 st σ) : Go obj N X pc lv (.int x :: st) σ := by
  obtain ⟨p, l, e, R, s, m, args, below, meth, c, nL', ad, D, cy, A, Q⟩ := X
  obtain ⟨hx, hb, hml, rfl, hown, hts, ⟨hK, hN⟩, hA, hlk, rfl⟩ := C
  intro H locs ls hP hD hS hl
  exact lv_istore hx hb d hl hn rfl (fun ls hl => kk H locs ls hP hD hS (LH_set hg hlv hl))
theorem go_astore_n (C : OkX obj N cc nL own fr lo X) {x : Nat} {k : Fin 4} {lv1 : List (Option Value)} (d : decode cc pc = .ok (.astore_n k, 1)) (hn : (k : Nat) < nL) (hg : nlong lv (k : Nat) = true) (hlv : lv.set (k : Nat) (some (.ref x)) = lv1) (kk : Go obj N X (pc + 1) lv1 st σ) : Go obj N X pc lv (.ref x :: st) σ := by
  obtain ⟨p, l, e, R, s, m, args, below, meth, c, nL', ad, D, cy, A, Q⟩ := X
  obtain ⟨hx, hb, hml, rfl, hown, hts, ⟨hK, hN⟩, hA, hlk, rfl⟩ := C
  intro H locs ls hP hD hS hl
  exact lv_astore_n hx hb d rfl hl hn rfl (fun ls hl => kk H locs ls hP hD hS (LH_set hg hlv hl))
theorem go_astore (C : OkX obj N cc nL own fr lo X) {x : Nat} {i : Nat} {lv1 : List (Option Value)} (d : decode cc pc = .ok (.astore i, 2)) (hn : i < nL) (hg : nlong lv i = true) (hlv : lv.set i (some (.ref x)) = lv1) (kk : Go obj N X (pc + 2) lv1 st σ) : Go obj N X pc lv (.ref x :: st) σ := by
  obtain ⟨p, l, e, R, s, m, args, below, meth, c, nL', ad, D, cy, A, Q⟩ := X
  obtain ⟨hx, hb, hml, rfl, hown, hts, ⟨hK, hN⟩, hA, hlk, rfl⟩ := C
  intro H locs ls hP hD hS hl
  exact lv_astore hx hb d hl hn rfl (fun ls hl => kk H locs ls hP hD hS (LH_set hg hlv hl))
theorem go_iinc (C : OkX obj N cc nL own fr lo X) {i : Nat} {n : Int} {x : Int32} (v : Int32) {lv1 : List (Option Value)} (d : decode cc pc = .ok (.iinc i n, 3)) (hi : lv[i]? = some (some (.int x))) (hv : x + Int32.ofInt n = v) (hn : i < nL) (hg : nlong lv i = true) (hlv : lv.set i (some (.int v)) = lv1) (kk : Go obj N X (pc + 3) lv1 st σ) : Go obj N X pc lv st σ := by
  obtain ⟨p, l, e, R, s, m, args, below, meth, c, nL', ad, D, cy, A, Q⟩ := X
  obtain ⟨hx, hb, hml, rfl, hown, hts, ⟨hK, hN⟩, hA, hlk, rfl⟩ := C
  intro H locs ls hP hD hS hl
  have hm : (i, Value.int x) ∈ asc ad lv := asc_mem.mpr ⟨.int x, hi, rfl⟩
  obtain ⟨k, hk⟩ := List.getElem?_of_mem hm
  exact lv_iinc hx hb d hl hk hv hn rfl (fun ls hl => kk H locs ls hP hD hS (LH_set hg hlv hl))
theorem go_iadd (C : OkX obj N cc nL own fr lo X) {x y : Int32} (d : decode cc pc = .ok (.iadd, 1)) (kk : Go obj N X (pc + 1) lv (.int (x + y) :: st) σ) : Go obj N X pc lv (.int y :: .int x :: st) σ := by
  obtain ⟨p, l, e, R, s, m, args, below, meth, c, nL', ad, D, cy, A, Q⟩ := X
  obtain ⟨hx, hb, hml, rfl, hown, hts, ⟨hK, hN⟩, hA, hlk, rfl⟩ := C
  intro H locs ls hP hD hS hl
  exact lv_iadd hx hb d (kk H locs ls hP hD hS hl)
theorem go_isub (C : OkX obj N cc nL own fr lo X) {x y : Int32} (d : decode cc pc = .ok (.isub, 1)) (kk : Go obj N X (pc + 1) lv (.int (x - y) :: st) σ) : Go obj N X pc lv (.int y :: .int x :: st) σ := by
  obtain ⟨p, l, e, R, s, m, args, below, meth, c, nL', ad, D, cy, A, Q⟩ := X
  obtain ⟨hx, hb, hml, rfl, hown, hts, ⟨hK, hN⟩, hA, hlk, rfl⟩ := C
  intro H locs ls hP hD hS hl
  exact lv_isub hx hb d (kk H locs ls hP hD hS hl)
theorem go_imul (C : OkX obj N cc nL own fr lo X) {x y : Int32} (d : decode cc pc = .ok (.imul, 1)) (kk : Go obj N X (pc + 1) lv (.int (x * y) :: st) σ) : Go obj N X pc lv (.int y :: .int x :: st) σ := by
  obtain ⟨p, l, e, R, s, m, args, below, meth, c, nL', ad, D, cy, A, Q⟩ := X
  obtain ⟨hx, hb, hml, rfl, hown, hts, ⟨hK, hN⟩, hA, hlk, rfl⟩ := C
  intro H locs ls hP hD hS hl
  exact lv_imul hx hb d (kk H locs ls hP hD hS hl)
theorem go_iand (C : OkX obj N cc nL own fr lo X) {x y : Int32} (d : decode cc pc = .ok (.iand, 1)) (kk : Go obj N X (pc + 1) lv (.int (x &&& y) :: st) σ) : Go obj N X pc lv (.int y :: .int x :: st) σ := by
  obtain ⟨p, l, e, R, s, m, args, below, meth, c, nL', ad, D, cy, A, Q⟩ := X
  obtain ⟨hx, hb, hml, rfl, hown, hts, ⟨hK, hN⟩, hA, hlk, rfl⟩ := C
  intro H locs ls hP hD hS hl
  exact lv_iand hx hb d (kk H locs ls hP hD hS hl)
theorem go_ior (C : OkX obj N cc nL own fr lo X) {x y : Int32} (d : decode cc pc = .ok (.ior, 1)) (kk : Go obj N X (pc + 1) lv (.int (x ||| y) :: st) σ) : Go obj N X pc lv (.int y :: .int x :: st) σ := by
  obtain ⟨p, l, e, R, s, m, args, below, meth, c, nL', ad, D, cy, A, Q⟩ := X
  obtain ⟨hx, hb, hml, rfl, hown, hts, ⟨hK, hN⟩, hA, hlk, rfl⟩ := C
  intro H locs ls hP hD hS hl
  exact lv_ior hx hb d (kk H locs ls hP hD hS hl)
theorem go_ishl (C : OkX obj N cc nL own fr lo X) {x y : Int32} (d : decode cc pc = .ok (.ishl, 1)) (kk : Go obj N X (pc + 1) lv (.int (x <<< (y &&& 31)) :: st) σ) : Go obj N X pc lv (.int y :: .int x :: st) σ := by
  obtain ⟨p, l, e, R, s, m, args, below, meth, c, nL', ad, D, cy, A, Q⟩ := X
  obtain ⟨hx, hb, hml, rfl, hown, hts, ⟨hK, hN⟩, hA, hlk, rfl⟩ := C
  intro H locs ls hP hD hS hl
  exact lv_ishl hx hb d (kk H locs ls hP hD hS hl)
theorem go_idiv (C : OkX obj N cc nL own fr lo X) {x y : Int32} (d : decode cc pc = .ok (.idiv, 1)) (hne : ¬ y = 0) (kk : Go obj N X (pc + 1) lv (.int (x / y) :: st) σ) : Go obj N X pc lv (.int y :: .int x :: st) σ := by
  obtain ⟨p, l, e, R, s, m, args, below, meth, c, nL', ad, D, cy, A, Q⟩ := X
  obtain ⟨hx, hb, hml, rfl, hown, hts, ⟨hK, hN⟩, hA, hlk, rfl⟩ := C
  intro H locs ls hP hD hS hl
  exact lv_idiv hx hb d hne (kk H locs ls hP hD hS hl)
theorem go_irem (C : OkX obj N cc nL own fr lo X) {x y : Int32} (d : decode cc pc = .ok (.irem, 1)) (hne : ¬ y = 0) (kk : Go obj N X (pc + 1) lv (.int (x - x / y * y) :: st) σ) : Go obj N X pc lv (.int y :: .int x :: st) σ := by
  obtain ⟨p, l, e, R, s, m, args, below, meth, c, nL', ad, D, cy, A, Q⟩ := X
  obtain ⟨hx, hb, hml, rfl, hown, hts, ⟨hK, hN⟩, hA, hlk, rfl⟩ := C
  intro H locs ls hP hD hS hl
  exact lv_irem hx hb d hne (kk H locs ls hP hD hS hl)
theorem go_iushr (C : OkX obj N cc nL own fr lo X) {x y : Int32} (v : Int32) (d : decode cc pc = .ok (.iushr, 1)) (hv : (x.toUInt32 >>> (y.toUInt32 &&& Int32.toUInt32 31)).toInt32 = v) (kk : Go obj N X (pc + 1) lv (.int v :: st) σ) : Go obj N X pc lv (.int y :: .int x :: st) σ := by
  obtain ⟨p, l, e, R, s, m, args, below, meth, c, nL', ad, D, cy, A, Q⟩ := X
  obtain ⟨hx, hb, hml, rfl, hown, hts, ⟨hK, hN⟩, hA, hlk, rfl⟩ := C
  intro H locs ls hP hD hS hl
  exact lv_iushr hx hb d hv (kk H locs ls hP hD hS hl)
theorem go_i2l (C : OkX obj N cc nL own fr lo X) {x : Int32} (v : Int64) (d : decode cc pc = .ok (.i2l, 1)) (hv : x.toInt64 = v) (kk : Go obj N X (pc + 1) lv (.long v :: st) σ) : Go obj N X pc lv (.int x :: st) σ := by
  obtain ⟨p, l, e, R, s, m, args, below, meth, c, nL', ad, D, cy, A, Q⟩ := X
  obtain ⟨hx, hb, hml, rfl, hown, hts, ⟨hK, hN⟩, hA, hlk, rfl⟩ := C
  intro H locs ls hP hD hS hl
  exact lv_i2l hx hb d hv (kk H locs ls hP hD hS hl)
theorem go_i2c (C : OkX obj N cc nL own fr lo X) {x : Int32} (v : Int32) (d : decode cc pc = .ok (.i2c, 1)) (hv : (x.toUInt32 % 65536).toInt32 = v) (kk : Go obj N X (pc + 1) lv (.int v :: st) σ) : Go obj N X pc lv (.int x :: st) σ := by
  obtain ⟨p, l, e, R, s, m, args, below, meth, c, nL', ad, D, cy, A, Q⟩ := X
  obtain ⟨hx, hb, hml, rfl, hown, hts, ⟨hK, hN⟩, hA, hlk, rfl⟩ := C
  intro H locs ls hP hD hS hl
  exact lv_i2c hx hb d hv (kk H locs ls hP hD hS hl)
theorem go_ladd (C : OkX obj N cc nL own fr lo X) {x y : Int64} (d : decode cc pc = .ok (.ladd, 1)) (kk : Go obj N X (pc + 1) lv (.long (x + y) :: st) σ) : Go obj N X pc lv (.long y :: .long x :: st) σ := by
  obtain ⟨p, l, e, R, s, m, args, below, meth, c, nL', ad, D, cy, A, Q⟩ := X
  obtain ⟨hx, hb, hml, rfl, hown, hts, ⟨hK, hN⟩, hA, hlk, rfl⟩ := C
  intro H locs ls hP hD hS hl
  exact lv_ladd hx hb d (kk H locs ls hP hD hS hl)
theorem go_lmul (C : OkX obj N cc nL own fr lo X) {x y : Int64} (d : decode cc pc = .ok (.lmul, 1)) (kk : Go obj N X (pc + 1) lv (.long (x * y) :: st) σ) : Go obj N X pc lv (.long y :: .long x :: st) σ := by
  obtain ⟨p, l, e, R, s, m, args, below, meth, c, nL', ad, D, cy, A, Q⟩ := X
  obtain ⟨hx, hb, hml, rfl, hown, hts, ⟨hK, hN⟩, hA, hlk, rfl⟩ := C
  intro H locs ls hP hD hS hl
  exact lv_lmul hx hb d (kk H locs ls hP hD hS hl)
theorem go_iaddN (C : OkX obj N cc nL own fr lo X) {a b : Nat} (d : decode cc pc = .ok (.iadd, 1)) (kk : Go obj N X (pc + 1) lv (.int (nI (a + b)) :: st) σ) : Go obj N X pc lv (.int (nI b) :: .int (nI a) :: st) σ := go_iadd C d (by rw [nI_add]; exact kk)
theorem go_imulN (C : OkX obj N cc nL own fr lo X) {a b : Nat} (d : decode cc pc = .ok (.imul, 1)) (kk : Go obj N X (pc + 1) lv (.int (nI (a * b)) :: st) σ) : Go obj N X pc lv (.int (nI b) :: .int (nI a) :: st) σ := go_imul C d (by rw [pk_mul]; exact kk)
theorem go_isubN (C : OkX obj N cc nL own fr lo X) {a b : Nat} (d : decode cc pc = .ok (.isub, 1)) (h : b ≤ a) (kk : Go obj N X (pc + 1) lv (.int (nI (a - b)) :: st) σ) : Go obj N X pc lv (.int (nI b) :: .int (nI a) :: st) σ := go_isub C d (by rw [pk_sub h]; exact kk)
theorem go_idivN (C : OkX obj N cc nL own fr lo X) {a b : Nat} (d : decode cc pc = .ok (.idiv, 1)) (ha : a < 2 ^ 31) (h0 : 0 < b) (hb : b < 2 ^ 31) (kk : Go obj N X (pc + 1) lv (.int (nI (a / b)) :: st) σ) : Go obj N X pc lv (.int (nI b) :: .int (nI a) :: st) σ := go_idiv C d (nI_ne0 h0 hb) (by rw [pk_div ha h0 hb]; exact kk)
theorem go_iremN (C : OkX obj N cc nL own fr lo X) {a b : Nat} (d : decode cc pc = .ok (.irem, 1)) (ha : a < 2 ^ 31) (h0 : 0 < b) (hb : b < 2 ^ 31) (kk : Go obj N X (pc + 1) lv (.int (nI (a % b)) :: st) σ) : Go obj N X pc lv (.int (nI b) :: .int (nI a) :: st) σ := go_irem C d (nI_ne0 h0 hb) (by rw [pk_rem ha h0 hb]; exact kk)
theorem go_iincN (C : OkX obj N cc nL own fr lo X) {i : Nat} {n : Int} {a : Nat} (k : Nat) {lv1 : List (Option Value)} (d : decode cc pc = .ok (.iinc i n, 3)) (hi : lv[i]? = some (some (.int (nI a)))) (hk : Int32.ofInt n = nI k) (hn : i < nL) (hg : nlong lv i = true) (hlv : lv.set i (some (.int (nI (a + k)))) = lv1) (kk : Go obj N X (pc + 3) lv1 st σ) : Go obj N X pc lv st σ := go_iinc C (nI (a + k)) d hi (by rw [hk, nI_add]) hn hg hlv kk
theorem go_dup (C : OkX obj N cc nL own fr lo X) {v : Value} (d : decode cc pc = .ok (.dup, 1)) (hv : v.category = 1) (kk : Go obj N X (pc + 1) lv (v :: v :: st) σ) : Go obj N X pc lv (v :: st) σ := by
  obtain ⟨p, l, e, R, s, m, args, below, meth, c, nL', ad, D, cy, A, Q⟩ := X
  obtain ⟨hx, hb, hml, rfl, hown, hts, ⟨hK, hN⟩, hA, hlk, rfl⟩ := C
  intro H locs ls hP hD hS hl
  exact lv_dup hx hb d ((cv_cat v).trans hv) (kk H locs ls hP hD hS hl)
theorem go_pop (C : OkX obj N cc nL own fr lo X) {v : Value} (d : decode cc pc = .ok (.pop, 1)) (hv : v.category = 1) (kk : Go obj N X (pc + 1) lv st σ) : Go obj N X pc lv (v :: st) σ := by
  obtain ⟨p, l, e, R, s, m, args, below, meth, c, nL', ad, D, cy, A, Q⟩ := X
  obtain ⟨hx, hb, hml, rfl, hown, hts, ⟨hK, hN⟩, hA, hlk, rfl⟩ := C
  intro H locs ls hP hD hS hl
  exact lv_pop hx hb d ((cv_cat v).trans hv) (kk H locs ls hP hD hS hl)
theorem go_dup2 (C : OkX obj N cc nL own fr lo X) {v u : Value} (d : decode cc pc = .ok (.dup2, 1)) (hv : v.category = 1) (hu : u.category = 1) (kk : Go obj N X (pc + 1) lv (v :: u :: v :: u :: st) σ) : Go obj N X pc lv (v :: u :: st) σ := by
  obtain ⟨p, l, e, R, s, m, args, below, meth, c, nL', ad, D, cy, A, Q⟩ := X
  obtain ⟨hx, hb, hml, rfl, hown, hts, ⟨hK, hN⟩, hA, hlk, rfl⟩ := C
  intro H locs ls hP hD hS hl
  exact lv_dup2_11 hx hb d ((cv_cat v).trans hv) ((cv_cat u).trans hu) (kk H locs ls hP hD hS hl)
theorem go_if_eq (C : OkX obj N cc nL own fr lo X) {x : Int32} {off : Int} (tgt : Nat) (d : decode cc pc = .ok (.ifCond .eq off, 3)) (ht : (pc : Int) + off = (tgt : Int)) (kt : x = 0 → Go obj N X tgt lv st σ) (kf : ¬ x = 0 → Go obj N X (pc + 3) lv st σ) : Go obj N X pc lv (.int x :: st) σ := by
  obtain ⟨p, l, e, R, s, m, args, below, meth, c, nL', ad, D, cy, A, Q⟩ := X
  obtain ⟨hx, hb, hml, rfl, hown, hts, ⟨hK, hN⟩, hA, hlk, rfl⟩ := C
  intro H locs ls hP hD hS hl
  exact lv_if_eq hx hb d ht (fun h => kt h H locs ls hP hD hS hl) (fun h => kf h H locs ls hP hD hS hl)
theorem go_if_ne (C : OkX obj N cc nL own fr lo X) {x : Int32} {off : Int} (tgt : Nat) (d : decode cc pc = .ok (.ifCond .ne off, 3)) (ht : (pc : Int) + off = (tgt : Int)) (kt : ¬ x = 0 → Go obj N X tgt lv st σ) (kf : x = 0 → Go obj N X (pc + 3) lv st σ) : Go obj N X pc lv (.int x :: st) σ := by
  obtain ⟨p, l, e, R, s, m, args, below, meth, c, nL', ad, D, cy, A, Q⟩ := X
  obtain ⟨hx, hb, hml, rfl, hown, hts, ⟨hK, hN⟩, hA, hlk, rfl⟩ := C
  intro H locs ls hP hD hS hl
  exact lv_if_ne hx hb d ht (fun h => kt h H locs ls hP hD hS hl) (fun h => kf h H locs ls hP hD hS hl)
theorem go_if_lt (C : OkX obj N cc nL own fr lo X) {x : Int32} {off : Int} (tgt : Nat) (d : decode cc pc = .ok (.ifCond .lt off, 3)) (ht : (pc : Int) + off = (tgt : Int)) (kt : x < 0 → Go obj N X tgt lv st σ) (kf : ¬ x < 0 → Go obj N X (pc + 3) lv st σ) : Go obj N X pc lv (.int x :: st) σ := by
  obtain ⟨p, l, e, R, s, m, args, below, meth, c, nL', ad, D, cy, A, Q⟩ := X
  obtain ⟨hx, hb, hml, rfl, hown, hts, ⟨hK, hN⟩, hA, hlk, rfl⟩ := C
  intro H locs ls hP hD hS hl
  exact lv_if_lt hx hb d ht (fun h => kt h H locs ls hP hD hS hl) (fun h => kf h H locs ls hP hD hS hl)
theorem go_if_ge (C : OkX obj N cc nL own fr lo X) {x : Int32} {off : Int} (tgt : Nat) (d : decode cc pc = .ok (.ifCond .ge off, 3)) (ht : (pc : Int) + off = (tgt : Int)) (kt : 0 ≤ x → Go obj N X tgt lv st σ) (kf : ¬ 0 ≤ x → Go obj N X (pc + 3) lv st σ) : Go obj N X pc lv (.int x :: st) σ := by
  obtain ⟨p, l, e, R, s, m, args, below, meth, c, nL', ad, D, cy, A, Q⟩ := X
  obtain ⟨hx, hb, hml, rfl, hown, hts, ⟨hK, hN⟩, hA, hlk, rfl⟩ := C
  intro H locs ls hP hD hS hl
  exact lv_if_ge hx hb d ht (fun h => kt h H locs ls hP hD hS hl) (fun h => kf h H locs ls hP hD hS hl)
theorem go_if_gt (C : OkX obj N cc nL own fr lo X) {x : Int32} {off : Int} (tgt : Nat) (d : decode cc pc = .ok (.ifCond .gt off, 3)) (ht : (pc : Int) + off = (tgt : Int)) (kt : 0 < x → Go obj N X tgt lv st σ) (kf : ¬ 0 < x → Go obj N X (pc + 3) lv st σ) : Go obj N X pc lv (.int x :: st) σ := by
  obtain ⟨p, l, e, R, s, m, args, below, meth, c, nL', ad, D, cy, A, Q⟩ := X
  obtain ⟨hx, hb, hml, rfl, hown, hts, ⟨hK, hN⟩, hA, hlk, rfl⟩ := C
  intro H locs ls hP hD hS hl
  exact lv_if_gt hx hb d ht (fun h => kt h H locs ls hP hD hS hl) (fun h => kf h H locs ls hP hD hS hl)
theorem go_if_le (C : OkX obj N cc nL own fr lo X) {x : Int32} {off : Int} (tgt : Nat) (d : decode cc pc = .ok (.ifCond .le off, 3)) (ht : (pc : Int) + off = (tgt : Int)) (kt : x ≤ 0 → Go obj N X tgt lv st σ) (kf : ¬ x ≤ 0 → Go obj N X (pc + 3) lv st σ) : Go obj N X pc lv (.int x :: st) σ := by
  obtain ⟨p, l, e, R, s, m, args, below, meth, c, nL', ad, D, cy, A, Q⟩ := X
  obtain ⟨hx, hb, hml, rfl, hown, hts, ⟨hK, hN⟩, hA, hlk, rfl⟩ := C
  intro H locs ls hP hD hS hl
  exact lv_if_le hx hb d ht (fun h => kt h H locs ls hP hD hS hl) (fun h => kf h H locs ls hP hD hS hl)
theorem go_icmp_eq (C : OkX obj N cc nL own fr lo X) {x y : Int32} {off : Int} (tgt : Nat) (d : decode cc pc = .ok (.if_icmp .eq off, 3)) (ht : (pc : Int) + off = (tgt : Int)) (kt : x = y → Go obj N X tgt lv st σ) (kf : ¬ x = y → Go obj N X (pc + 3) lv st σ) : Go obj N X pc lv (.int y :: .int x :: st) σ := by
  obtain ⟨p, l, e, R, s, m, args, below, meth, c, nL', ad, D, cy, A, Q⟩ := X
  obtain ⟨hx, hb, hml, rfl, hown, hts, ⟨hK, hN⟩, hA, hlk, rfl⟩ := C
  intro H locs ls hP hD hS hl
  exact lv_icmp_eq hx hb d ht (fun h => kt h H locs ls hP hD hS hl) (fun h => kf h H locs ls hP hD hS hl)
theorem go_icmp_ne (C : OkX obj N cc nL own fr lo X) {x y : Int32} {off : Int} (tgt : Nat) (d : decode cc pc = .ok (.if_icmp .ne off, 3)) (ht : (pc : Int) + off = (tgt : Int)) (kt : ¬ x = y → Go obj N X tgt lv st σ) (kf : x = y → Go obj N X (pc + 3) lv st σ) : Go obj N X pc lv (.int y :: .int x :: st) σ := by
  obtain ⟨p, l, e, R, s, m, args, below, meth, c, nL', ad, D, cy, A, Q⟩ := X
  obtain ⟨hx, hb, hml, rfl, hown, hts, ⟨hK, hN⟩, hA, hlk, rfl⟩ := C
  intro H locs ls hP hD hS hl
  exact lv_icmp_ne hx hb d ht (fun h => kt h H locs ls hP hD hS hl) (fun h => kf h H locs ls hP hD hS hl)
theorem go_icmp_lt (C : OkX obj N cc nL own fr lo X) {x y : Int32} {off : Int} (tgt : Nat) (d : decode cc pc = .ok (.if_icmp .lt off, 3)) (ht : (pc : Int) + off = (tgt : Int)) (kt : x < y → Go obj N X tgt lv st σ) (kf : ¬ x < y → Go obj N X (pc + 3) lv st σ) : Go obj N X pc lv (.int y :: .int x :: st) σ := by
  obtain ⟨p, l, e, R, s, m, args, below, meth, c, nL', ad, D, cy, A, Q⟩ := X
  obtain ⟨hx, hb, hml, rfl, hown, hts, ⟨hK, hN⟩, hA, hlk, rfl⟩ := C
  intro H locs ls hP hD hS hl
  exact lv_icmp_lt hx hb d ht (fun h => kt h H locs ls hP hD hS hl) (fun h => kf h H locs ls hP hD hS hl)
theorem go_icmp_ge (C : OkX obj N cc nL own fr lo X) {x y : Int32} {off : Int} (tgt : Nat) (d : decode cc pc = .ok (.if_icmp .ge off, 3)) (ht : (pc : Int) + off = (tgt : Int)) (kt : y ≤ x → Go obj N X tgt lv st σ) (kf : ¬ y ≤ x → Go obj N X (pc + 3) lv st σ) : Go obj N X pc lv (.int y :: .int x :: st) σ := by
  obtain ⟨p, l, e, R, s, m, args, below, meth, c, nL', ad, D, cy, A, Q⟩ := X
  obtain ⟨hx, hb, hml, rfl, hown, hts, ⟨hK, hN⟩, hA, hlk, rfl⟩ := C
  intro H locs ls hP hD hS hl
  exact lv_icmp_ge hx hb d ht (fun h => kt h H locs ls hP hD hS hl) (fun h => kf h H locs ls hP hD hS hl)
theorem go_icmp_gt (C : OkX obj N cc nL own fr lo X) {x y : Int32} {off : Int} (tgt : Nat) (d : decode cc pc = .ok (.if_icmp .gt off, 3)) (ht : (pc : Int) + off = (tgt : Int)) (kt : y < x → Go obj N X tgt lv st σ) (kf : ¬ y < x → Go obj N X (pc + 3) lv st σ) : Go obj N X pc lv (.int y :: .int x :: st) σ := by
  obtain ⟨p, l, e, R, s, m, args, below, meth, c, nL', ad, D, cy, A, Q⟩ := X
  obtain ⟨hx, hb, hml, rfl, hown, hts, ⟨hK, hN⟩, hA, hlk, rfl⟩ := C
  intro H locs ls hP hD hS hl
  exact lv_icmp_gt hx hb d ht (fun h => kt h H locs ls hP hD hS hl) (fun h => kf h H locs ls hP hD hS hl)
theorem go_icmp_le (C : OkX obj N cc nL own fr lo X) {x y : Int32} {off : Int} (tgt : Nat) (d : decode cc pc = .ok (.if_icmp .le off, 3)) (ht : (pc : Int) + off = (tgt : Int)) (kt : x ≤ y → Go obj N X tgt lv st σ) (kf : ¬ x ≤ y → Go obj N X (pc + 3) lv st σ) : Go obj N X pc lv (.int y :: .int x :: st) σ := by
  obtain ⟨p, l, e, R, s, m, args, below, meth, c, nL', ad, D, cy, A, Q⟩ := X
  obtain ⟨hx, hb, hml, rfl, hown, hts, ⟨hK, hN⟩, hA, hlk, rfl⟩ := C
  intro H locs ls hP hD hS hl
  exact lv_icmp_le hx hb d ht (fun h => kt h H locs ls hP hD hS hl) (fun h => kf h H locs ls hP hD hS hl)
theorem go_icmp_eqN (C : OkX obj N cc nL own fr lo X) {a b : Nat} {off : Int} (tgt : Nat) (d : decode cc pc = .ok (.if_icmp .eq off, 3)) (ht : (pc : Int) + off = (tgt : Int)) (ha : a < 2 ^ 31) (hb : b < 2 ^ 31) (kt : a = b → Go obj N X tgt lv st σ) (kf : a ≠ b → Go obj N X (pc + 3) lv st σ) : Go obj N X pc lv (.int (nI b) :: .int (nI a) :: st) σ := go_icmp_eq C tgt d ht (fun h => kt ((nI_eq ha hb).mp h)) (fun h => kf (fun e => h ((nI_eq ha hb).mpr e)))
theorem go_if_eqN (C : OkX obj N cc nL own fr lo X) {a : Nat} {off : Int} (tgt : Nat) (d : decode cc pc = .ok (.ifCond .eq off, 3)) (ht : (pc : Int) + off = (tgt : Int)) (ha : a < 2 ^ 31) (kt : a = 0 → Go obj N X tgt lv st σ) (kf : a ≠ 0 → Go obj N X (pc + 3) lv st σ) : Go obj N X pc lv (.int (nI a) :: st) σ := by
  have hb : 0 < 2 ^ 31 := by decide
  exact go_if_eq C tgt d ht (fun h => kt ((nI_eq ha hb).mp (nI_0 ▸ h))) (fun h => kf (fun e => (nI_0 ▸ h) ((nI_eq ha hb).mpr e)))
theorem go_icmp_neN (C : OkX obj N cc nL own fr lo X) {a b : Nat} {off : Int} (tgt : Nat) (d : decode cc pc = .ok (.if_icmp .ne off, 3)) (ht : (pc : Int) + off = (tgt : Int)) (ha : a < 2 ^ 31) (hb : b < 2 ^ 31) (kt : a ≠ b → Go obj N X tgt lv st σ) (kf : a = b → Go obj N X (pc + 3) lv st σ) : Go obj N X pc lv (.int (nI b) :: .int (nI a) :: st) σ := go_icmp_ne C tgt d ht (fun h => kt (fun e => h ((nI_eq ha hb).mpr e))) (fun h => kf ((nI_eq ha hb).mp h))
theorem go_if_neN (C : OkX obj N cc nL own fr lo X) {a : Nat} {off : Int} (tgt : Nat) (d : decode cc pc = .ok (.ifCond .ne off, 3)) (ht : (pc : Int) + off = (tgt : Int)) (ha : a < 2 ^ 31) (kt : a ≠ 0 → Go obj N X tgt lv st σ) (kf : a = 0 → Go obj N X (pc + 3) lv st σ) : Go obj N X pc lv (.int (nI a) :: st) σ := by
  have hb : 0 < 2 ^ 31 := by decide
  exact go_if_ne C tgt d ht (fun h => kt (fun e => (nI_0 ▸ h) ((nI_eq ha hb).mpr e))) (fun h => kf ((nI_eq ha hb).mp (nI_0 ▸ h)))
theorem go_icmp_ltN (C : OkX obj N cc nL own fr lo X) {a b : Nat} {off : Int} (tgt : Nat) (d : decode cc pc = .ok (.if_icmp .lt off, 3)) (ht : (pc : Int) + off = (tgt : Int)) (ha : a < 2 ^ 31) (hb : b < 2 ^ 31) (kt : a < b → Go obj N X tgt lv st σ) (kf : b ≤ a → Go obj N X (pc + 3) lv st σ) : Go obj N X pc lv (.int (nI b) :: .int (nI a) :: st) σ := go_icmp_lt C tgt d ht (fun h => kt ((nI_ltI ha hb).mp h)) (fun h => kf (Nat.le_of_not_lt (fun e => h ((nI_ltI ha hb).mpr e))))
theorem go_if_ltN (C : OkX obj N cc nL own fr lo X) {a : Nat} {off : Int} (tgt : Nat) (d : decode cc pc = .ok (.ifCond .lt off, 3)) (ht : (pc : Int) + off = (tgt : Int)) (ha : a < 2 ^ 31) (kt : a < 0 → Go obj N X tgt lv st σ) (kf : 0 ≤ a → Go obj N X (pc + 3) lv st σ) : Go obj N X pc lv (.int (nI a) :: st) σ := by
  have hb : 0 < 2 ^ 31 := by decide
  exact go_if_lt C tgt d ht (fun h => kt ((nI_ltI ha hb).mp (nI_0 ▸ h))) (fun h => kf (Nat.le_of_not_lt (fun e => (nI_0 ▸ h) ((nI_ltI ha hb).mpr e))))
theorem go_icmp_geN (C : OkX obj N cc nL own fr lo X) {a b : Nat} {off : Int} (tgt : Nat) (d : decode cc pc = .ok (.if_icmp .ge off, 3)) (ht : (pc : Int) + off = (tgt : Int)) (ha : a < 2 ^ 31) (hb : b < 2 ^ 31) (kt : b ≤ a → Go obj N X tgt lv st σ) (kf : a < b → Go obj N X (pc + 3) lv st σ) : Go obj N X pc lv (.int (nI b) :: .int (nI a) :: st) σ := go_icmp_ge C tgt d ht (fun h => kt ((nI_leI hb ha).mp h)) (fun h => kf (Nat.lt_of_not_le (fun e => h ((nI_leI hb ha).mpr e))))
theorem go_if_geN (C : OkX obj N cc nL own fr lo X) {a : Nat} {off : Int} (tgt : Nat) (d : decode cc pc = .ok (.ifCond .ge off, 3)) (ht : (pc : Int) + off = (tgt : Int)) (ha : a < 2 ^ 31) (kt : 0 ≤ a → Go obj N X tgt lv st σ) (kf : a < 0 → Go obj N X (pc + 3) lv st σ) : Go obj N X pc lv (.int (nI a) :: st) σ := by
  have hb : 0 < 2 ^ 31 := by decide
  exact go_if_ge C tgt d ht (fun h => kt ((nI_leI hb ha).mp (nI_0 ▸ h))) (fun h => kf (Nat.lt_of_not_le (fun e => (nI_0 ▸ h) ((nI_leI hb ha).mpr e))))
theorem go_icmp_gtN (C : OkX obj N cc nL own fr lo X) {a b : Nat} {off : Int} (tgt : Nat) (d : decode cc pc = .ok (.if_icmp .gt off, 3)) (ht : (pc : Int) + off = (tgt : Int)) (ha : a < 2 ^ 31) (hb : b < 2 ^ 31) (kt : b < a → Go obj N X tgt lv st σ) (kf : a ≤ b → Go obj N X (pc + 3) lv st σ) : Go obj N X pc lv (.int (nI b) :: .int (nI a) :: st) σ := go_icmp_gt C tgt d ht (fun h => kt ((nI_ltI hb ha).mp h)) (fun h => kf (Nat.le_of_not_lt (fun e => h ((nI_ltI hb ha).mpr e))))
theorem go_if_gtN (C : OkX obj N cc nL own fr lo X) {a : Nat} {off : Int} (tgt : Nat) (d : decode cc pc = .ok (.ifCond .gt off, 3)) (ht : (pc : Int) + off = (tgt : Int)) (ha : a < 2 ^ 31) (kt : 0 < a → Go obj N X tgt lv st σ) (kf : a ≤ 0 → Go obj N X (pc + 3) lv st σ) : Go obj N X pc lv (.int (nI a) :: st) σ := by
  have hb : 0 < 2 ^ 31 := by decide
  exact go_if_gt C tgt d ht (fun h => kt ((nI_ltI hb ha).mp (nI_0 ▸ h))) (fun h => kf (Nat.le_of_not_lt (fun e => (nI_0 ▸ h) ((nI_ltI hb ha).mpr e))))
theorem go_icmp_leN (C : OkX obj N cc nL own fr lo X) {a b : Nat} {off : Int} (tgt : Nat) (d : decode cc pc = .ok (.if_icmp .le off, 3)) (ht : (pc : Int) + off = (tgt : Int)) (ha : a < 2 ^ 31) (hb : b < 2 ^ 31) (kt : a ≤ b → Go obj N X tgt lv st σ) (kf : b < a → Go obj N X (pc + 3) lv st σ) : Go obj N X pc lv (.int (nI b) :: .int (nI a) :: st) σ := go_icmp_le C tgt d ht (fun h => kt ((nI_leI ha hb).mp h)) (fun h => kf (Nat.lt_of_not_le (fun e => h ((nI_leI ha hb).mpr e))))
theorem go_if_leN (C : OkX obj N cc nL own fr lo X) {a : Nat} {off : Int} (tgt : Nat) (d : decode cc pc = .ok (.ifCond .le off, 3)) (ht : (pc : Int) + off = (tgt : Int)) (ha : a < 2 ^ 31) (kt : a ≤ 0 → Go obj N X tgt lv st σ) (kf : 0 < a → Go obj N X (pc + 3) lv st σ) : Go obj N X pc lv (.int (nI a) :: st) σ := by
  have hb : 0 < 2 ^ 31 := by decide
  exact go_if_le C tgt d ht (fun h => kt ((nI_leI ha hb).mp (nI_0 ▸ h))) (fun h => kf (Nat.lt_of_not_le (fun e => (nI_0 ▸ h) ((nI_leI ha hb).mpr e))))
theorem go_goto (C : OkX obj N cc nL own fr lo X) {off : Int} (tgt : Nat) (d : decode cc pc = .ok (.goto off, 3)) (ht : (pc : Int) + off = (tgt : Int)) (kk : Go obj N X tgt lv st σ) : Go obj N X pc lv st σ := by
  obtain ⟨p, l, e, R, s, m, args, below, meth, c, nL', ad, D, cy, A, Q⟩ := X
  obtain ⟨hx, hb, hml, rfl, hown, hts, ⟨hK, hN⟩, hA, hlk, rfl⟩ := C
  intro H locs ls hP hD hS hl
  exact lv_goto hx hb d ht (kk H locs ls hP hD hS hl)
theorem go_lookup (C : OkX obj N cc nL own fr lo X) {x : Int32} {dflt : Int} {ps : Array (Int × Int)} {len : Nat} (tgt : Nat) (off : Int) (d : decode cc pc = .ok (.lookupswitch dflt ps, len)) (hp : (ps.toList.zip (ps.toList.drop 1)).all (fun (a, next) => a.1 < next.1) = true) (ho : Op.lookupswitch.offset ps.toList dflt x.toInt = off) (ht : (pc : Int) + off = (tgt : Int)) (kk : Go obj N X tgt lv st σ) : Go obj N X pc lv (.int x :: st) σ := by
  obtain ⟨p, l, e, R, s, m, args, below, meth, c, nL', ad, D, cy, A, Q⟩ := X
  obtain ⟨hx, hb, hml, rfl, hown, hts, ⟨hK, hN⟩, hA, hlk, rfl⟩ := C
  intro H locs ls hP hD hS hl
  exact lv_lookup hx hb d hp ho ht (kk H locs ls hP hD hS hl)
theorem go_tableIn (C : OkX obj N cc nL own fr lo X) {x : Int32} {dflt lo hi : Int} {offs : Array Int} {len : Nat} (tgt : Nat) (off : Int) (d : decode cc pc = .ok (.tableswitch dflt lo hi offs, len)) (h1 : ¬ x.toInt < lo) (h2 : ¬ hi < x.toInt) (ho : offs[(x.toInt - lo).toNat]? = some off) (ht : (pc : Int) + off = (tgt : Int)) (kk : Go obj N X tgt lv st σ) : Go obj N X pc lv (.int x :: st) σ := by
  obtain ⟨p, l, e, R, s, m, args, below, meth, c, nL', ad, D, cy, A, Q⟩ := X
  obtain ⟨hx, hb, hml, rfl, hown, hts, ⟨hK, hN⟩, hA, hlk, rfl⟩ := C
  intro H locs ls hP hD hS hl
  exact lv_tableIn hx hb d h1 h2 ho ht (kk H locs ls hP hD hS hl)
theorem go_tableOut (C : OkX obj N cc nL own fr lo X) {x : Int32} {dflt lo hi : Int} {offs : Array Int} {len : Nat} (tgt : Nat) (d : decode cc pc = .ok (.tableswitch dflt lo hi offs, len)) (h : x.toInt < lo ∨ hi < x.toInt) (ht : (pc : Int) + dflt = (tgt : Int)) (kk : Go obj N X tgt lv st σ) : Go obj N X pc lv (.int x :: st) σ := by
  obtain ⟨p, l, e, R, s, m, args, below, meth, c, nL', ad, D, cy, A, Q⟩ := X
  obtain ⟨hx, hb, hml, rfl, hown, hts, ⟨hK, hN⟩, hA, hlk, rfl⟩ := C
  intro H locs ls hP hD hS hl
  exact lv_tableOut hx hb d h ht (kk H locs ls hP hD hS hl)
/-- a field of an own class as an instruction links it -/
def GF (own : String) (idx ci f : Nat) (C0 : String) (T : u_T) (Nf : Nat) (ty : Nat → FieldType) : Prop :=
  vwCl[ci]? = some (C0, T, Nf) ∧ (∀ w ∈ u_ws C0 T Nf, w ∈ gw) ∧ f < Nf ∧ Cond.fieldLink own idx (T f).1 (T f).2.1 (T f).2.2.1 ∈ gw ∧ (∀ k, k < Nf → parseFieldDescriptor (T k).2.2.1 = some (ty k)) ∧ (∀ a, a < Nf → ∀ b, b < Nf → a ≠ b → (T a).2.1 ≠ (T b).2.1)
theorem go_getI (C : OkX obj N cc nL own fr lo X) {idx ci f : Nat} {C0 : String} {T : u_T} {Nf : Nat} {ty : Nat → FieldType} (F : GF own idx ci f C0 T Nf ty) (d : decode cc pc = .ok (.getfield idx, 3)) {k : Nat} {fl : List (Option Nat)} (hk : k < N) (ho : obj k = .inl (ci, fl)) (hf : fl[f]? = some none) (kk : Go obj N X (pc + 3) lv (.int (σ k f) :: st) σ) : Go obj N X pc lv (.ref k :: st) σ := by
  obtain ⟨p, l, e, R, s, m, args, below, meth, c, nL', ad, D, cy, A, Q⟩ := X
  obtain ⟨hx, hb, hml, rfl, hown, hts, ⟨hK, hN⟩, hA, hlk, rfl⟩ := C
  intro H locs ls hP hD hS hl
  obtain ⟨f1, f2, f3, f4, f5, f6⟩ := F
  exact va_get hx hb hts f2 hown hK hP k (fs := fsV ad (σ k) fl) (ci := ci) (by rw [WS_get hk, ho]; rfl) f1 f f3 (hts _ f4) (fun _ h => h) (v := .int (σ k f)) (fsV_get hf) d (kk H locs ls hP hD hS hl)
theorem go_getR (C : OkX obj N cc nL own fr lo X) {idx ci f : Nat} {C0 : String} {T : u_T} {Nf : Nat} {ty : Nat → FieldType} (F : GF own idx ci f C0 T Nf ty) (d : decode cc pc = .ok (.getfield idx, 3)) {k : Nat} {fl : List (Option Nat)} (hk : k < N) (ho : obj k = .inl (ci, fl)) {j : Nat} (hf : fl[f]? = some (some j)) (kk : Go obj N X (pc + 3) lv (.ref j :: st) σ) : Go obj N X pc lv (.ref k :: st) σ := by
  obtain ⟨p, l, e, R, s, m, args, below, meth, c, nL', ad, D, cy, A, Q⟩ := X
  obtain ⟨hx, hb, hml, rfl, hown, hts, ⟨hK, hN⟩, hA, hlk, rfl⟩ := C
  intro H locs ls hP hD hS hl
  obtain ⟨f1, f2, f3, f4, f5, f6⟩ := F
  exact va_get hx hb hts f2 hown hK hP k (fs := fsV ad (σ k) fl) (ci := ci) (by rw [WS_get hk, ho]; rfl) f1 f f3 (hts _ f4) (fun _ h => h) (v := .ref (ad j)) (fsV_get hf) d (kk H locs ls hP hD hS hl)
theorem go_putI (C : OkX obj N cc nL own fr lo X) {idx ci f : Nat} {C0 : String} {T : u_T} {Nf : Nat} {ty : Nat → FieldType} (F : GF own idx ci f C0 T Nf ty) (d : decode cc pc = .ok (.putfield idx, 3)) {k : Nat} {fl : List (Option Nat)} (hk : k < N) (ho : obj k = .inl (ci, fl)) (hf : fl[f]? = some none) (hfin : (T f).2.2.2 = false) {x : Int32} (hn : narrow (ty f) (.int x) = .int x) (hfit : fits (ty f) (.int x) = true) (kk : Go obj N X (pc + 3) lv st (updR σ k (upd (σ k) f x))) : Go obj N X pc lv (.int x :: .ref k :: st) σ := by
  obtain ⟨p, l, e, R, s, m, args, below, meth, c, nL', ad, D, cy, A, Q⟩ := X
  obtain ⟨hx, hb, hml, rfl, hown, hts, ⟨hK, hN⟩, hA, hlk, rfl⟩ := C
  intro H locs ls hP hD hS hl
  obtain ⟨f1, f2, f3, f4, f5, f6⟩ := F
  have hl2 : f < fl.length := (List.getElem?_eq_some_iff.mp hf).1
  refine va_put hx hb hts f2 ty f5 f6 hown hK hP hD hS k (fs := fsV ad (σ k) fl) (ci := ci) (by rw [WS_get hk, ho]; rfl) f1 f f3 (hts _ f4) (fun _ h => h) hfin (f5 f f3) hn hfit (by rw [fsV_len]; exact hl2) d (fun H1 locs1 hP1 hD1 hS1 => ?_)
  have e0 : (fsV ad (σ k) fl).set f (cv ad (Value.int x)) = fsV ad (upd (σ k) f x) fl := fsV_set x hf
  rw [e0] at hP1 hD1
  have e : (ad k, (Sum.inr (ci, fsV ad (upd (σ k) f x) fl) : va_E)) = (ad k, ce ad cy (upd (σ k) f x) (obj k)) := by rw [ho]; rfl
  rw [e, WS_set _ hk] at hP1 hD1
  exact kk H1 locs1 ls hP1 hD1 hS1 hl
theorem go_iald (C : OkX obj N cc nL own fr lo X) {k n : Nat} (d : decode cc pc = .ok (.iaload, 1)) (hk : k < N) (ho : obj k = .inr (.inl (0, n))) {i : Int32} (hin : vp_in i n) (kk : Go obj N X (pc + 1) lv (.int (σ k i.toNatClampNeg) :: st) σ) : Go obj N X pc lv (.int i :: .ref k :: st) σ := by
  obtain ⟨p, l, e, R, s, m, args, below, meth, c, nL', ad, D, cy, A, Q⟩ := X
  obtain ⟨hx, hb, hml, rfl, hown, hts, ⟨hK, hN⟩, hA, hlk, rfl⟩ := C
  intro H locs ls hP hD hS hl
  exact va_iald hx hb hK hP k 0 (f := σ k) (n := n) (cA := cy 0) (by rw [WS_get hk, ho]; rfl) rfl hin d (kk H locs ls hP hD hS hl)
theorem go_ialdN (C : OkX obj N cc nL own fr lo X) {k n : Nat} (d : decode cc pc = .ok (.iaload, 1)) (hk : k < N) (ho : obj k = .inr (.inl (0, n))) (hn : n < 2 ^ 31) {i : Nat} (hin : i < n) (kk : Go obj N X (pc + 1) lv (.int (σ k i) :: st) σ) : Go obj N X pc lv (.int (nI i) :: .ref k :: st) σ := go_iald C d hk ho (vp_in_nI hin hn) (by rw [nI_clamp (Nat.lt_trans hin hn)]; exact kk)
theorem go_zald (C : OkX obj N cc nL own fr lo X) {k n : Nat} (d : decode cc pc = .ok (.baload, 1)) (hk : k < N) (ho : obj k = .inr (.inl (1, n))) {i : Int32} (hin : vp_in i n) (kk : Go obj N X (pc + 1) lv (.int (σ k i.toNatClampNeg) :: st) σ) : Go obj N X pc lv (.int i :: .ref k :: st) σ := by
  obtain ⟨p, l, e, R, s, m, args, below, meth, c, nL', ad, D, cy, A, Q⟩ := X
  obtain ⟨hx, hb, hml, rfl, hown, hts, ⟨hK, hN⟩, hA, hlk, rfl⟩ := C
  intro H locs ls hP hD hS hl
  exact va_zald hx hb hK hP k 1 (f := σ k) (n := n) (cA := cy 1) (by rw [WS_get hk, ho]; rfl) rfl hin d (kk H locs ls hP hD hS hl)
theorem go_zaldN (C : OkX obj N cc nL own fr lo X) {k n : Nat} (d : decode cc pc = .ok (.baload, 1)) (hk : k < N) (ho : obj k = .inr (.inl (1, n))) (hn : n < 2 ^ 31) {i : Nat} (hin : i < n) (kk : Go obj N X (pc + 1) lv (.int (σ k i) :: st) σ) : Go obj N X pc lv (.int (nI i) :: .ref k :: st) σ := go_zald C d hk ho (vp_in_nI hin hn) (by rw [nI_clamp (Nat.lt_trans hin hn)]; exact kk)
theorem go_cald (C : OkX obj N cc nL own fr lo X) {k n : Nat} (d : decode cc pc = .ok (.caload, 1)) (hk : k < N) (ho : obj k = .inr (.inl (2, n))) {i : Int32} (hin : vp_in i n) (kk : Go obj N X (pc + 1) lv (.int (σ k i.toNatClampNeg) :: st) σ) : Go obj N X pc lv (.int i :: .ref k :: st) σ := by
  obtain ⟨p, l, e, R, s, m, args, below, meth, c, nL', ad, D, cy, A, Q⟩ := X
  obtain ⟨hx, hb, hml, rfl, hown, hts, ⟨hK, hN⟩, hA, hlk, rfl⟩ := C
  intro H locs ls hP hD hS hl
  exact va_cald hx hb hK hP k 2 (f := σ k) (n := n) (cA := cy 2) (by rw [WS_get hk, ho]; rfl) rfl hin d (kk H locs ls hP hD hS hl)
theorem go_caldN (C : OkX obj N cc nL own fr lo X) {k n : Nat} (d : decode cc pc = .ok (.caload, 1)) (hk : k < N) (ho : obj k = .inr (.inl (2, n))) (hn : n < 2 ^ 31) {i : Nat} (hin : i < n) (kk : Go obj N X (pc + 1) lv (.int (σ k i) :: st) σ) : Go obj N X pc lv (.int (nI i) :: .ref k :: st) σ := go_cald C d hk ho (vp_in_nI hin hn) (by rw [nI_clamp (Nat.lt_trans hin hn)]; exact kk)
theorem go_iast (C : OkX obj N cc nL own fr lo X) {k n : Nat} (d : decode cc pc = .ok (.iastore, 1)) (hk : k < N) (ho : obj k = .inr (.inl (0, n))) {i x : Int32} (hin : vp_in i n) (kk : Go obj N X (pc + 1) lv st (updR σ k (upd (σ k) i.toNatClampNeg x))) : Go obj N X pc lv (.int x :: .int i :: .ref k :: st) σ := by
  obtain ⟨p, l, e, R, s, m, args, below, meth, c, nL', ad, D, cy, A, Q⟩ := X
  obtain ⟨hx, hb, hml, rfl, hown, hts, ⟨hK, hN⟩, hA, hlk, rfl⟩ := C
  intro H locs ls hP hD hS hl
  refine va_iast hx hb hK hP hD hS k 0 (f := σ k) (n := n) (cA := cy 0) (by rw [WS_get hk, ho]; rfl) rfl hin d (fun H1 locs1 hP1 hD1 hS1 => ?_)
  have e : ∀ g : Nat → Int32, (ad k, (Sum.inl (cy 0, n, .inl g) : va_E)) = (ad k, ce ad cy g (obj k)) := fun g => by rw [ho]; rfl
  rw [e, WS_set _ hk] at hP1 hD1
  exact kk H1 locs1 ls hP1 hD1 hS1 hl
theorem go_iastN (C : OkX obj N cc nL own fr lo X) {k n : Nat} (d : decode cc pc = .ok (.iastore, 1)) (hk : k < N) (ho : obj k = .inr (.inl (0, n))) (hn : n < 2 ^ 31) {i : Nat} {x : Int32} (hin : i < n) (kk : Go obj N X (pc + 1) lv st (updR σ k (upd (σ k) i x))) : Go obj N X pc lv (.int x :: .int (nI i) :: .ref k :: st) σ := go_iast C d hk ho (vp_in_nI hin hn) (by rw [nI_clamp (Nat.lt_trans hin hn)]; exact kk)
theorem go_zast (C : OkX obj N cc nL own fr lo X) {k n : Nat} (d : decode cc pc = .ok (.bastore, 1)) (hk : k < N) (ho : obj k = .inr (.inl (1, n))) {i x : Int32} (hin : vp_in i n) (kk : Go obj N X (pc + 1) lv st (updR σ k (upd (σ k) i.toNatClampNeg (vp_nar .boolean x)))) : Go obj N X pc lv (.int x :: .int i :: .ref k :: st) σ := by
  obtain ⟨p, l, e, R, s, m, args, below, meth, c, nL', ad, D, cy, A, Q⟩ := X
  obtain ⟨hx, hb, hml, rfl, hown, hts, ⟨hK, hN⟩, hA, hlk, rfl⟩ := C
  intro H locs ls hP hD hS hl
  refine va_zast hx hb hK hP hD hS k 1 (f := σ k) (n := n) (cA := cy 1) (by rw [WS_get hk, ho]; rfl) rfl hin d (fun H1 locs1 hP1 hD1 hS1 => ?_)
  have e : ∀ g : Nat → Int32, (ad k, (Sum.inl (cy 1, n, .inl g) : va_E)) = (ad k, ce ad cy g (obj k)) := fun g => by rw [ho]; rfl
  rw [e, WS_set _ hk] at hP1 hD1
  exact kk H1 locs1 ls hP1 hD1 hS1 hl
theorem go_zastN (C : OkX obj N cc nL own fr lo X) {k n : Nat} (d : decode cc pc = .ok (.bastore, 1)) (hk : k < N) (ho : obj k = .inr (.inl (1, n))) (hn : n < 2 ^ 31) {i : Nat} {x : Int32} (hin : i < n) (kk : Go obj N X (pc + 1) lv st (updR σ k (upd (σ k) i (vp_nar .boolean x)))) : Go obj N X pc lv (.int x :: .int (nI i) :: .ref k :: st) σ := go_zast C d hk ho (vp_in_nI hin hn) (by rw [nI_clamp (Nat.lt_trans hin hn)]; exact kk)
theorem go_cast (C : OkX obj N cc nL own fr lo X) {k n : Nat} (d : decode cc pc = .ok (.castore, 1)) (hk : k < N) (ho : obj k = .inr (.inl (2, n))) {i x : Int32} (hin : vp_in i n) (kk : Go obj N X (pc + 1) lv st (updR σ k (upd (σ k) i.toNatClampNeg (vp_nar .char x)))) : Go obj N X pc lv (.int x :: .int i :: .ref k :: st) σ := by
  obtain ⟨p, l, e, R, s, m, args, below, meth, c, nL', ad, D, cy, A, Q⟩ := X
  obtain ⟨hx, hb, hml, rfl, hown, hts, ⟨hK, hN⟩, hA, hlk, rfl⟩ := C
  intro H locs ls hP hD hS hl
  refine va_cast hx hb hK hP hD hS k 2 (f := σ k) (n := n) (cA := cy 2) (by rw [WS_get hk, ho]; rfl) rfl hin d (fun H1 locs1 hP1 hD1 hS1 => ?_)
  have e : ∀ g : Nat → Int32, (ad k, (Sum.inl (cy 2, n, .inl g) : va_E)) = (ad k, ce ad cy g (obj k)) := fun g => by rw [ho]; rfl
  rw [e, WS_set _ hk] at hP1 hD1
  exact kk H1 locs1 ls hP1 hD1 hS1 hl
theorem go_castN (C : OkX obj N cc nL own fr lo X) {k n : Nat} (d : decode cc pc = .ok (.castore, 1)) (hk : k < N) (ho : obj k = .inr (.inl (2, n))) (hn : n < 2 ^ 31) {i : Nat} {x : Int32} (hin : i < n) (kk : Go obj N X (pc + 1) lv st (updR σ k (upd (σ k) i (vp_nar .char x)))) : Go obj N X pc lv (.int x :: .int (nI i) :: .ref k :: st) σ := go_cast C d hk ho (vp_in_nI hin hn) (by rw [nI_clamp (Nat.lt_trans hin hn)]; exact kk)
theorem go_aald (C : OkX obj N cc nL own fr lo X) {k t : Nat} {js : List Nat} (d : decode cc pc = .ok (.aaload, 1)) (hk : k < N) (ho : obj k = .inr (.inr (t, js))) (ht : t = 3 ∨ t = 4) (hn : js.length < 2 ^ 31) {i j : Nat} (hj : js[i]? = some j) (kk : Go obj N X (pc + 1) lv (.ref j :: st) σ) : Go obj N X pc lv (.int (nI i) :: .ref k :: st) σ := by
  obtain ⟨p, l, e, R, s, m, args, below, meth, c, nL', ad, D, cy, A, Q⟩ := X
  obtain ⟨hx, hb, hml, rfl, hown, hts, ⟨hK, hN⟩, hA, hlk, rfl⟩ := C
  intro H locs ls hP hD hS hl
  have hi := (List.getElem?_eq_some_iff.mp hj).1
  have h31 : i < 2 ^ 31 := Nat.lt_trans hi hn
  have hin : vp_in (nI i) js.length := vp_in_nI hi hn
  have hlt : (nI i).toNatClampNeg < js.length := by rw [nI_clamp h31]; exact hi
  obtain ⟨ty, hty, hrk⟩ : ∃ ty : FieldType, (tyL cy)[t]? = some (cy t, ty) ∧ (ty = .array .int ∨ ty = .object RX5) := by
    rcases ht with rfl | rfl
    · exact ⟨_, rfl, Or.inl rfl⟩
    · exact ⟨_, rfl, Or.inr rfl⟩
  have hws : (WS obj N ad cy σ)[k]? = some (ad k, .inl (cy t, js.length, .inr (.inr (.inr (.inr (fun i => js[i]?.map ad)))))) := by rw [WS_get hk, ho]; rfl
  have hv : va_rf ((fun i => js[i]?.map ad) (nI i).toNatClampNeg) = .ref (ad j) := by
    show va_rf (js[(nI i).toNatClampNeg]?.map ad) = _
    rw [nI_clamp h31, hj]; rfl
  have kk' := kk H locs ls hP hD hS hl
  have kk2 : W p l e (rmOf fr lo) s m args below meth c H locs 0 0 Q (F0 m (pc + 1) ls (va_rf ((fun i => js[i]?.map ad) (nI i).toNatClampNeg) :: st.map (cv ad))) := by rw [hv]; exact kk'
  exact W.aald (v := va_rf ((fun i => js[i]?.map ad) (nI i).toNatClampNeg)) (ty := ty) hx hb (hP k _ hws) ((hK.2 t _ hty).1 js.length (fun j => va_rf ((fun i => js[i]?.map ad) j))) (by rcases hrk with rfl | rfl <;> rfl) (fun q => by cases q) (by show ¬ (nI i < 0 ∨ (arrV _ _ _).slots.size ≤ _); rw [arrV_size]; exact hin) (by show (arrV _ _ _).slots[_]? = _; rw [arrV_read _ _ hlt]) rfl rfl d kk2
def LkM (own : String) (idx : Nat) (y : MethodName) (cc : ByteArray) : Prop := Cond.methodLink own idx y ∈ gw ∧ Cond.static y ∈ gw ∧ Cond.initialized "java/lang/Math" ∈ gw ∧ Cond.code y cc 2 (some .int) ∈ gw
theorem go_max (C : OkX obj N cc nL own fr lo X) {idx : Nat} {x y : Int32} (L : LkM own idx Lib.Math.max.name Lib.Math.max.code) (d : decode cc pc = .ok (.invokestatic idx, 3)) (hfr : 1 ≤ fr) (hlo : (st.map (fun v => v.category)).sum + 13 ≤ lo) (kk : Go obj N X (pc + 3) lv (.int (if x < y then y else x) :: st) σ) : Go obj N X pc lv (.int y :: .int x :: st) σ := by
  obtain ⟨p, l, e, R, s, m, args, below, meth, c, nL', ad, D, cy, A, Q⟩ := X
  obtain ⟨hx, hb, hml, rfl, hown, hts, ⟨hK, hN⟩, hA, hlk, rfl⟩ := C
  intro H locs ls hP hD hS hl
  have hcs : ((st.map (cv ad)).map fun v => v.category).sum = (st.map fun v => v.category).sum := by rw [List.map_map]; congr 2; funext v; exact cv_cat v
  exact va_mmax hx hb (hml.trans hl.1.symm) hown (hts _ L.1) (hts _ L.2.1) (hts _ L.2.2.1) (hts _ L.2.2.2) hfr (by rw [hcs]; exact hlo) (Nat.zero_le _) (Nat.zero_le _) d (kk H locs ls hP hD hS hl)
theorem go_min (C : OkX obj N cc nL own fr lo X) {idx : Nat} {x y : Int32} (L : LkM own idx Lib.Math.min.name Lib.Math.min.code) (d : decode cc pc = .ok (.invokestatic idx, 3)) (hfr : 1 ≤ fr) (hlo : (st.map (fun v => v.category)).sum + 13 ≤ lo) (kk : Go obj N X (pc + 3) lv (.int (if y < x then y else x) :: st) σ) : Go obj N X pc lv (.int y :: .int x :: st) σ := by
  obtain ⟨p, l, e, R, s, m, args, below, meth, c, nL', ad, D, cy, A, Q⟩ := X
  obtain ⟨hx, hb, hml, rfl, hown, hts, ⟨hK, hN⟩, hA, hlk, rfl⟩ := C
  intro H locs ls hP hD hS hl
  have hcs : ((st.map (cv ad)).map fun v => v.category).sum = (st.map fun v => v.category).sum := by rw [List.map_map]; congr 2; funext v; exact cv_cat v
  exact va_mmin hx hb (hml.trans hl.1.symm) hown (hts _ L.1) (hts _ L.2.1) (hts _ L.2.2.1) (hts _ L.2.2.2) hfr (by rw [hcs]; exact hlo) (Nat.zero_le _) (Nat.zero_le _) d (kk H locs ls hP hD hS hl)
theorem go_maxN (C : OkX obj N cc nL own fr lo X) {idx a b : Nat} (L : LkM own idx Lib.Math.max.name Lib.Math.max.code) (d : decode cc pc = .ok (.invokestatic idx, 3)) (hfr : 1 ≤ fr) (hlo : (st.map (fun v => v.category)).sum + 13 ≤ lo) (ha : a < 2 ^ 31) (hb : b < 2 ^ 31) (kk : Go obj N X (pc + 3) lv (.int (nI (max a b)) :: st) σ) : Go obj N X pc lv (.int (nI b) :: .int (nI a) :: st) σ := go_max C L d hfr hlo (by
  have e : (if nI a < nI b then nI b else nI a) = nI (max a b) := by
    by_cases h : a < b
    · rw [if_pos ((nI_ltI ha hb).mpr h), Nat.max_eq_right (Nat.le_of_lt h)]
    · rw [if_neg (fun q => h ((nI_ltI ha hb).mp q)), Nat.max_eq_left (Nat.le_of_not_lt h)]
  rw [e]; exact kk)
theorem go_minN (C : OkX obj N cc nL own fr lo X) {idx a b : Nat} (L : LkM own idx Lib.Math.min.name Lib.Math.min.code) (d : decode cc pc = .ok (.invokestatic idx, 3)) (hfr : 1 ≤ fr) (hlo : (st.map (fun v => v.category)).sum + 13 ≤ lo) (ha : a < 2 ^ 31) (hb : b < 2 ^ 31) (kk : Go obj N X (pc + 3) lv (.int (nI (min a b)) :: st) σ) : Go obj N X pc lv (.int (nI b) :: .int (nI a) :: st) σ := go_min C L d hfr hlo (by
  have e : (if nI b < nI a then nI b else nI a) = nI (min a b) := by
    by_cases h : b < a
    · rw [if_pos ((nI_ltI hb ha).mpr h), Nat.min_eq_right (Nat.le_of_lt h)]
    · rw [if_neg (fun q => h ((nI_ltI hb ha).mp q)), Nat.min_eq_left (Nat.le_of_not_lt h)]
  rw [e]; exact kk)
def LkA (own : String) (idx : Nat) : Prop := Cond.methodLink own idx arraycopyName ∈ gw ∧ Cond.native arraycopyName ∈ gw ∧ Cond.static arraycopyName ∈ gw ∧ Cond.initialized "java/lang/System" ∈ gw
theorem go_acopy (C : OkX obj N cc nL own fr lo X) {idx : Nat} {k0 k1 n0 n1 sp dp n : Nat} (L : LkA own idx) (d : decode cc pc = .ok (.invokestatic idx, 3)) (hk0 : k0 < N) (hk1 : k1 < N) (ho0 : obj k0 = .inr (.inl (0, n0))) (ho1 : obj k1 = .inr (.inl (0, n1))) (h0 : sp + n ≤ n0) (h1 : dp + n ≤ n1) (hn0 : n0 < 2 ^ 31) (hn1 : n1 < 2 ^ 31) (hfr : 1 ≤ fr) (hlo : (st.map (fun v => v.category)).sum + (nativeFrameWords "java/lang/System" "arraycopy" 5 + 11) ≤ lo) (kk : Go obj N X (pc + 3) lv st (updR σ k1 (va_cpy (σ k0) (σ k1) sp dp n))) : Go obj N X pc lv (.int (nI n) :: .int (nI dp) :: .ref k1 :: .int (nI sp) :: .ref k0 :: st) σ := by
  obtain ⟨p, l, e, R, s, m, args, below, meth, c, nL', ad, D, cy, A, Q⟩ := X
  obtain ⟨hx, hb, hml, rfl, hown, hts, ⟨hK, hN⟩, hA, hlk, rfl⟩ := C
  intro H locs ls hP hD hS hl
  have hcs : ((st.map (cv ad)).map fun v => v.category).sum = (st.map fun v => v.category).sum := by rw [List.map_map]; congr 2; funext v; exact cv_cat v
  have hsp : sp < 2 ^ 31 := by omega
  have hdp : dp < 2 ^ 31 := by omega
  have hnn : n < 2 ^ 31 := by omega
  refine va_copyi hx hb (hml.trans hl.1.symm) hown (hts _ L.1) (hts _ L.2.1) (hts _ L.2.2.1) (hts _ L.2.2.2) hK hP hD hS k0 k1 0 0 (ty := .int) (f := σ k0) (g := σ k1) (by rw [WS_get hk0, ho0]; rfl) (by rw [WS_get hk1, ho1]; rfl) rfl rfl rfl (nI_pos hsp) (nI_pos hdp) (nI_pos hnn) (by rw [nI_clamp hsp, nI_clamp hnn]; exact h0) (by rw [nI_clamp hdp, nI_clamp hnn]; exact h1) (fun i _ => rfl) hfr (by rw [hcs]; exact hlo) d (fun H1 locs1 hP1 hD1 hS1 => ?_)
  have e : ∀ g : Nat → Int32, (ad k1, (Sum.inl (cy 0, n1, .inl g) : va_E)) = (ad k1, ce ad cy g (obj k1)) := fun g => by rw [ho1]; rfl
  rw [e, WS_set _ hk1, nI_clamp hsp, nI_clamp hdp, nI_clamp hnn] at hP1 hD1
  exact kk H1 locs1 ls hP1 hD1 hS1 hl
theorem go_iret {ret : FieldType} {post : Int32 → Mem → Prop} (hr : RI obj N cc ret X post) {x : Int32} (d : decode cc pc = .ok (.ireturn, 1)) (hn : narrow ret (.int x) = .int x) (hp : post x σ) : Go obj N X pc lv [.int x] σ := hr pc lv x σ d hn hp
theorem go_vret {post : Mem → Prop} (hr : RV obj N cc X post) (d : decode cc pc = .ok (.return_, 1)) (hp : post σ) : Go obj N X pc lv [] σ := hr pc lv σ d hp
theorem go_lret {post : Int64 → Mem → Prop} (hr : RLg obj N cc X post) {x : Int64} (d : decode cc pc = .ok (.lreturn, 1)) (hp : post x σ) : Go obj N X pc lv [.long x] σ := hr pc lv x σ d hp
theorem go_top {x : Int32} (y : Int32) (h : x = y) (kk : Go obj N X pc lv (.int y :: st) σ) : Go obj N X pc lv (.int x :: st) σ := by rw [h]; exact kk
theorem go_topi {x : Int32} (kk : ∀ y : Int32, y = x → Go obj N X pc lv (.int y :: st) σ) : Go obj N X pc lv (.int x :: st) σ := kk x rfl
theorem go_mem {τ : Mem} (h : σ = τ) (kk : Go obj N X pc lv st τ) : Go obj N X pc lv st σ := by rw [h]; exact kk
end GO
end
section
/-! Calls, over the layer. -/
def CodeOk (y : MethodName) (cc : ByteArray) (nL : Nat) (ret : Option FieldType) (n : Nat) : Prop := Cond.code y cc nL ret ∈ gw ∧ (y.cls ≠ "java/lang/invoke/MethodHandle" ∧ y.cls ≠ "java/lang/invoke/VarHandle" ∧ (parseMethodDescriptor y.desc).map (fun d => d.parameters.length) = some n) ∧ plainName y.cls = true
def LkS (own : String) (idx : Nat) (y : MethodName) : Prop := Cond.methodLink own idx y ∈ gw ∧ Cond.static y ∈ gw ∧ Cond.initialized y.cls ∈ gw
def LkV (own : String) (idx : Nat) (y : MethodName) : Prop := Cond.methodLink own idx y ∈ gw ∧ Cond.instanceMethod y ∈ gw ∧ Cond.initialized y.cls ∈ gw ∧ Cond.selects y.cls y y ∈ gw
def LkN (own : String) (idx : Nat) (y : MethodName) (host : String) : Prop := Cond.methodLinkNest own idx y host ∈ nestW ∧ Cond.static y ∈ gw ∧ Cond.initialized y.cls ∈ gw
def Pv (v : Int32) (σ : Mem) : Int32 → Mem → Prop := fun r τ => r = v ∧ τ = σ
section GOC
variable {obj : Nat → Lay} {N : Nat} {cc : ByteArray} {nL : Nat} {own : String} {fr lo : Nat} {X : GX} {pc : Nat} {lv : List (Option Value)} {st st0 : List Value} {σ : Mem}
variable {y : MethodName} {cc2 : ByteArray} {nL2 : Nat} {ret : FieldType} {fr2 lo2 idx n : Nat} {av : List Value}
theorem go_cSI (C : OkX obj N cc nL own fr lo X) {post : Int32 → Mem → Prop} (K : CodeOk y cc2 nL2 (some ret) n) (L : LkS own idx y) (d : decode cc pc = .ok (.invokestatic idx, 3)) (hc : CtI obj N y cc2 nL2 ret fr2 lo2 av σ post) (hn : av.length = n) (hR : fr2 + 1 ≤ fr ∧ 8 + (nL2 + 11) + lo2 ≤ lo) (hW : (st.map fun v => v.category).sum ≤ 8) (hst : st0 = av.reverse ++ st) (kk : ∀ (r : Int32) (τ : Mem), post r τ → Go obj N X (pc + 3) lv (.int r :: st) τ) : Go obj N X pc lv st0 σ := by
  obtain ⟨p, l, e, R, s, m, args, below, meth, c, nL', ad, D, cy, A, Q⟩ := X
  obtain ⟨hx, hb, hml, rfl, hown, hts, ⟨hK, hN⟩, hA, hlk, rfl⟩ := C
  intro H locs ls hP hD hS hl
  have hF := WS_A hD hS hA
  have hcs : ((st.map (cv ad)).map fun v => v.category).sum = (st.map fun v => v.category).sum := by rw [List.map_map]; congr 2; funext v; exact cv_cat v
  subst hst
  refine va_calli (va_runS (As := av.map (cv ad)) (rest := st.map (cv ad)) (Ts := gw) ⟨hx, hb, hml, hown, hts⟩ (hc l D cy ad H.size) ⟨callB_of n hts (gw_code K.1) rfl rfl rfl (hts _ L.2.2) (hts _ L.1) K.2.1 hR, hts _ L.2.1⟩ ⟨CtB.blind, fun U hU hW => ⟨rfl, by rw [hU], by rw [hU]; exact hP, ⟨va_K.moved hW.alike hK, hN.warm hW⟩, hD.weaken (fun _ _ _ _ => trivial)⟩⟩ rfl (by rw [List.length_map]; exact hn) hl.1 (by show List.map _ _ = _; rw [List.map_append, List.map_reverse]) (lv_room (by rw [hcs]; exact hW)) d ⟨Nat.le_refl _, Nat.le_refl _⟩) hS (fun q _ h => hF q h) hF (fun r τ t H1 locs1 ht hvm hw hB hz1 hk1 hS1 => ?_)
  have hB : va_P D vwCl (WS obj N ad cy τ) t.heap := hB
  rw [ht] at hB
  exact kk r τ hw H1 locs1 ls hB (WS_D hD) hS1 hl
theorem go_cNI (C : OkX obj N cc nL own fr lo X) {post : Int32 → Mem → Prop} {host : String} (K : CodeOk y cc2 nL2 (some ret) n) (L : LkN own idx y host) (d : decode cc pc = .ok (.invokestatic idx, 3)) (hc : CtI obj N y cc2 nL2 ret fr2 lo2 av σ post) (hn : av.length = n) (hR : fr2 + 1 ≤ fr ∧ 8 + (nL2 + 11) + lo2 ≤ lo) (hW : (st.map fun v => v.category).sum ≤ 8) (hst : st0 = av.reverse ++ st) (kk : ∀ (r : Int32) (τ : Mem), post r τ → Go obj N X (pc + 3) lv (.int r :: st) τ) : Go obj N X pc lv st0 σ := by
  obtain ⟨p, l, e, R, s, m, args, below, meth, c, nL', ad, D, cy, A, Q⟩ := X
  obtain ⟨hx, hb, hml, rfl, hown, hts, ⟨hK, hN⟩, hA, hlk, rfl⟩ := C
  intro H locs ls hP hD hS hl
  have hF := WS_A hD hS hA
  have hcs : ((st.map (cv ad)).map fun v => v.category).sum = (st.map fun v => v.category).sum := by rw [List.map_map]; congr 2; funext v; exact cv_cat v
  subst hst
  refine va_calli (va_runSN (As := av.map (cv ad)) (rest := st.map (cv ad)) (Ts := gw) ⟨hx, hb, hml, hown, hts⟩ (hc l D cy ad H.size) ⟨va_cnB n hts (gw_code K.1) rfl rfl rfl (hN _ L.1) (hts _ L.2.2) K.2.1 hR, hts _ L.2.1, trivial⟩ ⟨CtB.blind, fun U hU hW => ⟨rfl, by rw [hU], by rw [hU]; exact hP, ⟨va_K.moved hW.alike hK, hN.warm hW⟩, hD.weaken (fun _ _ _ _ => trivial)⟩⟩ rfl (by rw [List.length_map]; exact hn) hl.1 (by show List.map _ _ = _; rw [List.map_append, List.map_reverse]) (lv_room (by rw [hcs]; exact hW)) d ⟨Nat.le_refl _, Nat.le_refl _⟩) hS (fun q _ h => hF q h) hF (fun r τ t H1 locs1 ht hvm hw hB hz1 hk1 hS1 => ?_)
  have hB : va_P D vwCl (WS obj N ad cy τ) t.heap := hB
  rw [ht] at hB
  exact kk r τ hw H1 locs1 ls hB (WS_D hD) hS1 hl
theorem go_cVI (C : OkX obj N cc nL own fr lo X) {post : Int32 → Mem → Prop} {k0 ci : Nat} {fl : List (Option Nat)} {C0 : vw_C} (K : CodeOk y cc2 nL2 (some ret) n) (L : LkV own idx y) (d : decode cc pc = .ok (.invokevirtual idx, 3)) (hk : k0 < N) (ho : obj k0 = .inl (ci, fl)) (hcl : vwCl[ci]? = some C0) (hcn : C0.1 = y.cls) (hc : CtI obj N y cc2 nL2 ret fr2 lo2 (.ref k0 :: av) σ post) (hn : av.length = n) (hR : fr2 + 1 ≤ fr ∧ 8 + (nL2 + 11) + lo2 ≤ lo) (hW : (st.map fun v => v.category).sum ≤ 8) (hst : st0 = av.reverse ++ .ref k0 :: st) (kk : ∀ (r : Int32) (τ : Mem), post r τ → Go obj N X (pc + 3) lv (.int r :: st) τ) : Go obj N X pc lv st0 σ := by
  obtain ⟨p, l, e, R, s, m, args, below, meth, c, nL', ad, D, cy, A, Q⟩ := X
  obtain ⟨hx, hb, hml, rfl, hown, hts, ⟨hK, hN⟩, hA, hlk, rfl⟩ := C
  intro H locs ls hP hD hS hl
  have hF := WS_A hD hS hA
  have hcs : ((st.map (cv ad)).map fun v => v.category).sum = (st.map fun v => v.category).sum := by rw [List.map_map]; congr 2; funext v; exact cv_cat v
  subst hst
  have ok : ∀ w ∈ gw, w.before args s = true := hts
  refine va_calli (va_runV (C := y.cls) (b := ad k0) (As := av.map (cv ad)) (rest := st.map (cv ad)) (Ts := gw) ⟨hx, hb, hml, hown, hts⟩ (hc l D cy ad H.size) ⟨callB_of n hts (gw_code K.1) rfl rfl rfl (hts _ L.2.2.1) (hts _ L.1) K.2.1 hR, hts _ L.2.1, hts _ L.2.2.2⟩ ⟨CtB.blind, by rw [← hcn]; exact va_recv hK hP (ci := ci) (q0 := k0) hcl (fs := fsV ad (σ k0) fl) (by rw [WS_get hk, ho]; rfl), fun U hU hW => ⟨rfl, by rw [hU], by rw [hU]; exact hP, ⟨va_K.moved hW.alike hK, hN.warm hW⟩, hD.weaken (fun _ _ _ _ => trivial)⟩⟩ rfl (by rw [List.length_map]; exact hn) hl.1 (by show List.map _ _ = _; rw [List.map_append, List.map_reverse]; rfl) (lv_room (by rw [hcs]; exact hW)) d ⟨Nat.le_refl _, Nat.le_refl _⟩) hS (fun q _ h => hF q h) hF (fun r τ t H1 locs1 ht hvm hw hB hz1 hk1 hS1 => ?_)
  have hB : va_P D vwCl (WS obj N ad cy τ) t.heap := hB
  rw [ht] at hB
  exact kk r τ hw H1 locs1 ls hB (WS_D hD) hS1 hl
theorem go_cSV (C : OkX obj N cc nL own fr lo X) {post : Mem → Prop} (K : CodeOk y cc2 nL2 none n) (L : LkS own idx y) (d : decode cc pc = .ok (.invokestatic idx, 3)) (hc : CtV obj N y cc2 nL2 fr2 lo2 av σ post) (hn : av.length = n) (hR : fr2 + 1 ≤ fr ∧ 8 + (nL2 + 11) + lo2 ≤ lo) (hW : (st.map fun v => v.category).sum ≤ 8) (hst : st0 = av.reverse ++ st) (kk : ∀ (τ : Mem), post τ → Go obj N X (pc + 3) lv st τ) : Go obj N X pc lv st0 σ := by
  obtain ⟨p, l, e, R, s, m, args, below, meth, c, nL', ad, D, cy, A, Q⟩ := X
  obtain ⟨hx, hb, hml, rfl, hown, hts, ⟨hK, hN⟩, hA, hlk, rfl⟩ := C
  intro H locs ls hP hD hS hl
  have hF := WS_A hD hS hA
  have hcs : ((st.map (cv ad)).map fun v => v.category).sum = (st.map fun v => v.category).sum := by rw [List.map_map]; congr 2; funext v; exact cv_cat v
  subst hst
  refine va_callv (va_runS (As := av.map (cv ad)) (rest := st.map (cv ad)) (Ts := gw) ⟨hx, hb, hml, hown, hts⟩ (hc l D cy ad H.size) ⟨callB_of n hts (gw_code K.1) rfl rfl rfl (hts _ L.2.2) (hts _ L.1) K.2.1 hR, hts _ L.2.1⟩ ⟨CtB.blind, fun U hU hW => ⟨rfl, by rw [hU], by rw [hU]; exact hP, ⟨va_K.moved hW.alike hK, hN.warm hW⟩, hD.weaken (fun _ _ _ _ => trivial)⟩⟩ rfl (by rw [List.length_map]; exact hn) hl.1 (by show List.map _ _ = _; rw [List.map_append, List.map_reverse]) (lv_room (by rw [hcs]; exact hW)) d ⟨Nat.le_refl _, Nat.le_refl _⟩) hS (fun q _ h => hF q h) hF (fun τ t H1 locs1 ht hvm hw hB hz1 hk1 hS1 => ?_)
  have hB : va_P D vwCl (WS obj N ad cy τ) t.heap := hB
  rw [ht] at hB
  exact kk τ hw H1 locs1 ls hB (WS_D hD) hS1 hl
theorem go_cNV (C : OkX obj N cc nL own fr lo X) {post : Mem → Prop} {host : String} (K : CodeOk y cc2 nL2 none n) (L : LkN own idx y host) (d : decode cc pc = .ok (.invokestatic idx, 3)) (hc : CtV obj N y cc2 nL2 fr2 lo2 av σ post) (hn : av.length = n) (hR : fr2 + 1 ≤ fr ∧ 8 + (nL2 + 11) + lo2 ≤ lo) (hW : (st.map fun v => v.category).sum ≤ 8) (hst : st0 = av.reverse ++ st) (kk : ∀ (τ : Mem), post τ → Go obj N X (pc + 3) lv st τ) : Go obj N X pc lv st0 σ := by
  obtain ⟨p, l, e, R, s, m, args, below, meth, c, nL', ad, D, cy, A, Q⟩ := X
  obtain ⟨hx, hb, hml, rfl, hown, hts, ⟨hK, hN⟩, hA, hlk, rfl⟩ := C
  intro H locs ls hP hD hS hl
  have hF := WS_A hD hS hA
  have hcs : ((st.map (cv ad)).map fun v => v.category).sum = (st.map fun v => v.category).sum := by rw [List.map_map]; congr 2; funext v; exact cv_cat v
  subst hst
  refine va_callv (va_runSN (As := av.map (cv ad)) (rest := st.map (cv ad)) (Ts := gw) ⟨hx, hb, hml, hown, hts⟩ (hc l D cy ad H.size) ⟨va_cnB n hts (gw_code K.1) rfl rfl rfl (hN _ L.1) (hts _ L.2.2) K.2.1 hR, hts _ L.2.1, trivial⟩ ⟨CtB.blind, fun U hU hW => ⟨rfl, by rw [hU], by rw [hU]; exact hP, ⟨va_K.moved hW.alike hK, hN.warm hW⟩, hD.weaken (fun _ _ _ _ => trivial)⟩⟩ rfl (by rw [List.length_map]; exact hn) hl.1 (by show List.map _ _ = _; rw [List.map_append, List.map_reverse]) (lv_room (by rw [hcs]; exact hW)) d ⟨Nat.le_refl _, Nat.le_refl _⟩) hS (fun q _ h => hF q h) hF (fun τ t H1 locs1 ht hvm hw hB hz1 hk1 hS1 => ?_)
  have hB : va_P D vwCl (WS obj N ad cy τ) t.heap := hB
  rw [ht] at hB
  exact kk τ hw H1 locs1 ls hB (WS_D hD) hS1 hl
theorem go_cVV (C : OkX obj N cc nL own fr lo X) {post : Mem → Prop} {k0 ci : Nat} {fl : List (Option Nat)} {C0 : vw_C} (K : CodeOk y cc2 nL2 none n) (L : LkV own idx y) (d : decode cc pc = .ok (.invokevirtual idx, 3)) (hk : k0 < N) (ho : obj k0 = .inl (ci, fl)) (hcl : vwCl[ci]? = some C0) (hcn : C0.1 = y.cls) (hc : CtV obj N y cc2 nL2 fr2 lo2 (.ref k0 :: av) σ post) (hn : av.length = n) (hR : fr2 + 1 ≤ fr ∧ 8 + (nL2 + 11) + lo2 ≤ lo) (hW : (st.map fun v => v.category).sum ≤ 8) (hst : st0 = av.reverse ++ .ref k0 :: st) (kk : ∀ (τ : Mem), post τ → Go obj N X (pc + 3) lv st τ) : Go obj N X pc lv st0 σ := by
  obtain ⟨p, l, e, R, s, m, args, below, meth, c, nL', ad, D, cy, A, Q⟩ := X
  obtain ⟨hx, hb, hml, rfl, hown, hts, ⟨hK, hN⟩, hA, hlk, rfl⟩ := C
  intro H locs ls hP hD hS hl
  have hF := WS_A hD hS hA
  have hcs : ((st.map (cv ad)).map fun v => v.category).sum = (st.map fun v => v.category).sum := by rw [List.map_map]; congr 2; funext v; exact cv_cat v
  subst hst
  have ok : ∀ w ∈ gw, w.before args s = true := hts
  refine va_callv (va_runV (C := y.cls) (b := ad k0) (As := av.map (cv ad)) (rest := st.map (cv ad)) (Ts := gw) ⟨hx, hb, hml, hown, hts⟩ (hc l D cy ad H.size) ⟨callB_of n hts (gw_code K.1) rfl rfl rfl (hts _ L.2.2.1) (hts _ L.1) K.2.1 hR, hts _ L.2.1, hts _ L.2.2.2⟩ ⟨CtB.blind, by rw [← hcn]; exact va_recv hK hP (ci := ci) (q0 := k0) hcl (fs := fsV ad (σ k0) fl) (by rw [WS_get hk, ho]; rfl), fun U hU hW => ⟨rfl, by rw [hU], by rw [hU]; exact hP, ⟨va_K.moved hW.alike hK, hN.warm hW⟩, hD.weaken (fun _ _ _ _ => trivial)⟩⟩ rfl (by rw [List.length_map]; exact hn) hl.1 (by show List.map _ _ = _; rw [List.map_append, List.map_reverse]; rfl) (lv_room (by rw [hcs]; exact hW)) d ⟨Nat.le_refl _, Nat.le_refl _⟩) hS (fun q _ h => hF q h) hF (fun τ t H1 locs1 ht hvm hw hB hz1 hk1 hS1 => ?_)
  have hB : va_P D vwCl (WS obj N ad cy τ) t.heap := hB
  rw [ht] at hB
  exact kk τ hw H1 locs1 ls hB (WS_D hD) hS1 hl
theorem go_cSL (C : OkX obj N cc nL own fr lo X) {post : Int64 → Mem → Prop} (K : CodeOk y cc2 nL2 (some .long) n) (L : LkS own idx y) (d : decode cc pc = .ok (.invokestatic idx, 3)) (hc : CtL obj N y cc2 nL2 fr2 lo2 av σ post) (hn : av.length = n) (hR : fr2 + 1 ≤ fr ∧ 8 + (nL2 + 11) + lo2 ≤ lo) (hW : (st.map fun v => v.category).sum ≤ 8) (hst : st0 = av.reverse ++ st) (kk : ∀ (r : Int64) (τ : Mem), post r τ → Go obj N X (pc + 3) lv (.long r :: st) τ) : Go obj N X pc lv st0 σ := by
  obtain ⟨p, l, e, R, s, m, args, below, meth, c, nL', ad, D, cy, A, Q⟩ := X
  obtain ⟨hx, hb, hml, rfl, hown, hts, ⟨hK, hN⟩, hA, hlk, rfl⟩ := C
  intro H locs ls hP hD hS hl
  have hF := WS_A hD hS hA
  have hcs : ((st.map (cv ad)).map fun v => v.category).sum = (st.map fun v => v.category).sum := by rw [List.map_map]; congr 2; funext v; exact cv_cat v
  subst hst
  refine va_calll (va_runS (As := av.map (cv ad)) (rest := st.map (cv ad)) (Ts := gw) ⟨hx, hb, hml, hown, hts⟩ (hc l D cy ad H.size) ⟨callB_of n hts (gw_code K.1) rfl rfl rfl (hts _ L.2.2) (hts _ L.1) K.2.1 hR, hts _ L.2.1⟩ ⟨CtB.blind, fun U hU hW => ⟨rfl, by rw [hU], by rw [hU]; exact hP, ⟨va_K.moved hW.alike hK, hN.warm hW⟩, hD.weaken (fun _ _ _ _ => trivial)⟩⟩ rfl (by rw [List.length_map]; exact hn) hl.1 (by show List.map _ _ = _; rw [List.map_append, List.map_reverse]) (lv_room (by rw [hcs]; exact hW)) d ⟨Nat.le_refl _, Nat.le_refl _⟩) hS (fun q _ h => hF q h) hF (fun r τ t H1 locs1 ht hvm hw hB hz1 hk1 hS1 => ?_)
  have hB : va_P D vwCl (WS obj N ad cy τ) t.heap := hB
  rw [ht] at hB
  exact kk r τ hw H1 locs1 ls hB (WS_D hD) hS1 hl
theorem go_cNL (C : OkX obj N cc nL own fr lo X) {post : Int64 → Mem → Prop} {host : String} (K : CodeOk y cc2 nL2 (some .long) n) (L : LkN own idx y host) (d : decode cc pc = .ok (.invokestatic idx, 3)) (hc : CtL obj N y cc2 nL2 fr2 lo2 av σ post) (hn : av.length = n) (hR : fr2 + 1 ≤ fr ∧ 8 + (nL2 + 11) + lo2 ≤ lo) (hW : (st.map fun v => v.category).sum ≤ 8) (hst : st0 = av.reverse ++ st) (kk : ∀ (r : Int64) (τ : Mem), post r τ → Go obj N X (pc + 3) lv (.long r :: st) τ) : Go obj N X pc lv st0 σ := by
  obtain ⟨p, l, e, R, s, m, args, below, meth, c, nL', ad, D, cy, A, Q⟩ := X
  obtain ⟨hx, hb, hml, rfl, hown, hts, ⟨hK, hN⟩, hA, hlk, rfl⟩ := C
  intro H locs ls hP hD hS hl
  have hF := WS_A hD hS hA
  have hcs : ((st.map (cv ad)).map fun v => v.category).sum = (st.map fun v => v.category).sum := by rw [List.map_map]; congr 2; funext v; exact cv_cat v
  subst hst
  refine va_calll (va_runSN (As := av.map (cv ad)) (rest := st.map (cv ad)) (Ts := gw) ⟨hx, hb, hml, hown, hts⟩ (hc l D cy ad H.size) ⟨va_cnB n hts (gw_code K.1) rfl rfl rfl (hN _ L.1) (hts _ L.2.2) K.2.1 hR, hts _ L.2.1, trivial⟩ ⟨CtB.blind, fun U hU hW => ⟨rfl, by rw [hU], by rw [hU]; exact hP, ⟨va_K.moved hW.alike hK, hN.warm hW⟩, hD.weaken (fun _ _ _ _ => trivial)⟩⟩ rfl (by rw [List.length_map]; exact hn) hl.1 (by show List.map _ _ = _; rw [List.map_append, List.map_reverse]) (lv_room (by rw [hcs]; exact hW)) d ⟨Nat.le_refl _, Nat.le_refl _⟩) hS (fun q _ h => hF q h) hF (fun r τ t H1 locs1 ht hvm hw hB hz1 hk1 hS1 => ?_)
  have hB : va_P D vwCl (WS obj N ad cy τ) t.heap := hB
  rw [ht] at hB
  exact kk r τ hw H1 locs1 ls hB (WS_D hD) hS1 hl
theorem go_cVL (C : OkX obj N cc nL own fr lo X) {post : Int64 → Mem → Prop} {k0 ci : Nat} {fl : List (Option Nat)} {C0 : vw_C} (K : CodeOk y cc2 nL2 (some .long) n) (L : LkV own idx y) (d : decode cc pc = .ok (.invokevirtual idx, 3)) (hk : k0 < N) (ho : obj k0 = .inl (ci, fl)) (hcl : vwCl[ci]? = some C0) (hcn : C0.1 = y.cls) (hc : CtL obj N y cc2 nL2 fr2 lo2 (.ref k0 :: av) σ post) (hn : av.length = n) (hR : fr2 + 1 ≤ fr ∧ 8 + (nL2 + 11) + lo2 ≤ lo) (hW : (st.map fun v => v.category).sum ≤ 8) (hst : st0 = av.reverse ++ .ref k0 :: st) (kk : ∀ (r : Int64) (τ : Mem), post r τ → Go obj N X (pc + 3) lv (.long r :: st) τ) : Go obj N X pc lv st0 σ := by
  obtain ⟨p, l, e, R, s, m, args, below, meth, c, nL', ad, D, cy, A, Q⟩ := X
  obtain ⟨hx, hb, hml, rfl, hown, hts, ⟨hK, hN⟩, hA, hlk, rfl⟩ := C
  intro H locs ls hP hD hS hl
  have hF := WS_A hD hS hA
  have hcs : ((st.map (cv ad)).map fun v => v.category).sum = (st.map fun v => v.category).sum := by rw [List.map_map]; congr 2; funext v; exact cv_cat v
  subst hst
  have ok : ∀ w ∈ gw, w.before args s = true := hts
  refine va_calll (va_runV (C := y.cls) (b := ad k0) (As := av.map (cv ad)) (rest := st.map (cv ad)) (Ts := gw) ⟨hx, hb, hml, hown, hts⟩ (hc l D cy ad H.size) ⟨callB_of n hts (gw_code K.1) rfl rfl rfl (hts _ L.2.2.1) (hts _ L.1) K.2.1 hR, hts _ L.2.1, hts _ L.2.2.2⟩ ⟨CtB.blind, by rw [← hcn]; exact va_recv hK hP (ci := ci) (q0 := k0) hcl (fs := fsV ad (σ k0) fl) (by rw [WS_get hk, ho]; rfl), fun U hU hW => ⟨rfl, by rw [hU], by rw [hU]; exact hP, ⟨va_K.moved hW.alike hK, hN.warm hW⟩, hD.weaken (fun _ _ _ _ => trivial)⟩⟩ rfl (by rw [List.length_map]; exact hn) hl.1 (by show List.map _ _ = _; rw [List.map_append, List.map_reverse]; rfl) (lv_room (by rw [hcs]; exact hW)) d ⟨Nat.le_refl _, Nat.le_refl _⟩) hS (fun q _ h => hF q h) hF (fun r τ t H1 locs1 ht hvm hw hB hz1 hk1 hS1 => ?_)
  have hB : va_P D vwCl (WS obj N ad cy τ) t.heap := hB
  rw [ht] at hB
  exact kk r τ hw H1 locs1 ls hB (WS_D hD) hS1 hl
theorem go_V0I (C : OkX obj N cc nL own fr lo X) {post : Int32 → Mem → Prop} {k0 ci : Nat} {fl : List (Option Nat)} {C0 : vw_C} (K : CodeOk y cc2 nL2 (some ret) 0) (L : LkV own idx y) (d : decode cc pc = .ok (.invokevirtual idx, 3)) (hk : k0 < N) (ho : obj k0 = .inl (ci, fl)) (hcl : vwCl[ci]? = some C0) (hcn : C0.1 = y.cls) (hc : CtI obj N y cc2 nL2 ret fr2 lo2 [.ref k0] σ post) (hR : fr2 + 1 ≤ fr ∧ 8 + (nL2 + 11) + lo2 ≤ lo) (hW : (st.map fun v => v.category).sum ≤ 8) (kk : ∀ (r : Int32) (τ : Mem), post r τ → Go obj N X (pc + 3) lv (.int r :: st) τ) : Go obj N X pc lv (.ref k0 :: st) σ := go_cVI C K L d hk ho hcl hcn hc rfl hR hW rfl kk
theorem go_V0P (C : OkX obj N cc nL own fr lo X) {v : Int32} {k0 ci : Nat} {fl : List (Option Nat)} {C0 : vw_C} (K : CodeOk y cc2 nL2 (some ret) 0) (L : LkV own idx y) (d : decode cc pc = .ok (.invokevirtual idx, 3)) (hk : k0 < N) (ho : obj k0 = .inl (ci, fl)) (hcl : vwCl[ci]? = some C0) (hcn : C0.1 = y.cls) (hc : CtI obj N y cc2 nL2 ret fr2 lo2 [.ref k0] σ (Pv v σ)) (hR : fr2 + 1 ≤ fr ∧ 8 + (nL2 + 11) + lo2 ≤ lo) (hW : (st.map fun v => v.category).sum ≤ 8) (kk : Go obj N X (pc + 3) lv (.int v :: st) σ) : Go obj N X pc lv (.ref k0 :: st) σ := go_V0I C K L d hk ho hcl hcn hc hR hW (fun r τ h => by rw [h.1, h.2]; exact kk)
theorem go_S1I (C : OkX obj N cc nL own fr lo X) {post : Int32 → Mem → Prop} {a1 : Value} (K : CodeOk y cc2 nL2 (some ret) 1) (L : LkS own idx y) (d : decode cc pc = .ok (.invokestatic idx, 3)) (hc : CtI obj N y cc2 nL2 ret fr2 lo2 [a1] σ post) (hR : fr2 + 1 ≤ fr ∧ 8 + (nL2 + 11) + lo2 ≤ lo) (hW : (st.map fun v => v.category).sum ≤ 8) (kk : ∀ (r : Int32) (τ : Mem), post r τ → Go obj N X (pc + 3) lv (.int r :: st) τ) : Go obj N X pc lv (a1 :: st) σ := go_cSI C K L d hc rfl hR hW rfl kk
theorem go_N1I (C : OkX obj N cc nL own fr lo X) {post : Int32 → Mem → Prop} {a1 : Value} {host : String} (K : CodeOk y cc2 nL2 (some ret) 1) (L : LkN own idx y host) (d : decode cc pc = .ok (.invokestatic idx, 3)) (hc : CtI obj N y cc2 nL2 ret fr2 lo2 [a1] σ post) (hR : fr2 + 1 ≤ fr ∧ 8 + (nL2 + 11) + lo2 ≤ lo) (hW : (st.map fun v => v.category).sum ≤ 8) (kk : ∀ (r : Int32) (τ : Mem), post r τ → Go obj N X (pc + 3) lv (.int r :: st) τ) : Go obj N X pc lv (a1 :: st) σ := go_cNI C K L d hc rfl hR hW rfl kk
theorem go_V1I (C : OkX obj N cc nL own fr lo X) {post : Int32 → Mem → Prop} {a1 : Value} {k0 ci : Nat} {fl : List (Option Nat)} {C0 : vw_C} (K : CodeOk y cc2 nL2 (some ret) 1) (L : LkV own idx y) (d : decode cc pc = .ok (.invokevirtual idx, 3)) (hk : k0 < N) (ho : obj k0 = .inl (ci, fl)) (hcl : vwCl[ci]? = some C0) (hcn : C0.1 = y.cls) (hc : CtI obj N y cc2 nL2 ret fr2 lo2 [.ref k0, a1] σ post) (hR : fr2 + 1 ≤ fr ∧ 8 + (nL2 + 11) + lo2 ≤ lo) (hW : (st.map fun v => v.category).sum ≤ 8) (kk : ∀ (r : Int32) (τ : Mem), post r τ → Go obj N X (pc + 3) lv (.int r :: st) τ) : Go obj N X pc lv (a1 :: .ref k0 :: st) σ := go_cVI C K L d hk ho hcl hcn hc rfl hR hW rfl kk
theorem go_S1P (C : OkX obj N cc nL own fr lo X) {v : Int32} {a1 : Value} (K : CodeOk y cc2 nL2 (some ret) 1) (L : LkS own idx y) (d : decode cc pc = .ok (.invokestatic idx, 3)) (hc : CtI obj N y cc2 nL2 ret fr2 lo2 [a1] σ (Pv v σ)) (hR : fr2 + 1 ≤ fr ∧ 8 + (nL2 + 11) + lo2 ≤ lo) (hW : (st.map fun v => v.category).sum ≤ 8) (kk : Go obj N X (pc + 3) lv (.int v :: st) σ) : Go obj N X pc lv (a1 :: st) σ := go_S1I C K L d hc hR hW (fun r τ h => by rw [h.1, h.2]; exact kk)
theorem go_N1P (C : OkX obj N cc nL own fr lo X) {v : Int32} {a1 : Value} {host : String} (K : CodeOk y cc2 nL2 (some ret) 1) (L : LkN own idx y host) (d : decode cc pc = .ok (.invokestatic idx, 3)) (hc : CtI obj N y cc2 nL2 ret fr2 lo2 [a1] σ (Pv v σ)) (hR : fr2 + 1 ≤ fr ∧ 8 + (nL2 + 11) + lo2 ≤ lo) (hW : (st.map fun v => v.category).sum ≤ 8) (kk : Go obj N X (pc + 3) lv (.int v :: st) σ) : Go obj N X pc lv (a1 :: st) σ := go_N1I C K L d hc hR hW (fun r τ h => by rw [h.1, h.2]; exact kk)
theorem go_V1P (C : OkX obj N cc nL own fr lo X) {v : Int32} {a1 : Value} {k0 ci : Nat} {fl : List (Option Nat)} {C0 : vw_C} (K : CodeOk y cc2 nL2 (some ret) 1) (L : LkV own idx y) (d : decode cc pc = .ok (.invokevirtual idx, 3)) (hk : k0 < N) (ho : obj k0 = .inl (ci, fl)) (hcl : vwCl[ci]? = some C0) (hcn : C0.1 = y.cls) (hc : CtI obj N y cc2 nL2 ret fr2 lo2 [.ref k0, a1] σ (Pv v σ)) (hR : fr2 + 1 ≤ fr ∧ 8 + (nL2 + 11) + lo2 ≤ lo) (hW : (st.map fun v => v.category).sum ≤ 8) (kk : Go obj N X (pc + 3) lv (.int v :: st) σ) : Go obj N X pc lv (a1 :: .ref k0 :: st) σ := go_V1I C K L d hk ho hcl hcn hc hR hW (fun r τ h => by rw [h.1, h.2]; exact kk)
theorem go_S2I (C : OkX obj N cc nL own fr lo X) {post : Int32 → Mem → Prop} {a1 a2 : Value} (K : CodeOk y cc2 nL2 (some ret) 2) (L : LkS own idx y) (d : decode cc pc = .ok (.invokestatic idx, 3)) (hc : CtI obj N y cc2 nL2 ret fr2 lo2 [a1, a2] σ post) (hR : fr2 + 1 ≤ fr ∧ 8 + (nL2 + 11) + lo2 ≤ lo) (hW : (st.map fun v => v.category).sum ≤ 8) (kk : ∀ (r : Int32) (τ : Mem), post r τ → Go obj N X (pc + 3) lv (.int r :: st) τ) : Go obj N X pc lv (a2 :: a1 :: st) σ := go_cSI C K L d hc rfl hR hW rfl kk
theorem go_V2I (C : OkX obj N cc nL own fr lo X) {post : Int32 → Mem → Prop} {a1 a2 : Value} {k0 ci : Nat} {fl : List (Option Nat)} {C0 : vw_C} (K : CodeOk y cc2 nL2 (some ret) 2) (L : LkV own idx y) (d : decode cc pc = .ok (.invokevirtual idx, 3)) (hk : k0 < N) (ho : obj k0 = .inl (ci, fl)) (hcl : vwCl[ci]? = some C0) (hcn : C0.1 = y.cls) (hc : CtI obj N y cc2 nL2 ret fr2 lo2 [.ref k0, a1, a2] σ post) (hR : fr2 + 1 ≤ fr ∧ 8 + (nL2 + 11) + lo2 ≤ lo) (hW : (st.map fun v => v.category).sum ≤ 8) (kk : ∀ (r : Int32) (τ : Mem), post r τ → Go obj N X (pc + 3) lv (.int r :: st) τ) : Go obj N X pc lv (a2 :: a1 :: .ref k0 :: st) σ := go_cVI C K L d hk ho hcl hcn hc rfl hR hW rfl kk
theorem go_S2P (C : OkX obj N cc nL own fr lo X) {v : Int32} {a1 a2 : Value} (K : CodeOk y cc2 nL2 (some ret) 2) (L : LkS own idx y) (d : decode cc pc = .ok (.invokestatic idx, 3)) (hc : CtI obj N y cc2 nL2 ret fr2 lo2 [a1, a2] σ (Pv v σ)) (hR : fr2 + 1 ≤ fr ∧ 8 + (nL2 + 11) + lo2 ≤ lo) (hW : (st.map fun v => v.category).sum ≤ 8) (kk : Go obj N X (pc + 3) lv (.int v :: st) σ) : Go obj N X pc lv (a2 :: a1 :: st) σ := go_S2I C K L d hc hR hW (fun r τ h => by rw [h.1, h.2]; exact kk)
theorem go_V2P (C : OkX obj N cc nL own fr lo X) {v : Int32} {a1 a2 : Value} {k0 ci : Nat} {fl : List (Option Nat)} {C0 : vw_C} (K : CodeOk y cc2 nL2 (some ret) 2) (L : LkV own idx y) (d : decode cc pc = .ok (.invokevirtual idx, 3)) (hk : k0 < N) (ho : obj k0 = .inl (ci, fl)) (hcl : vwCl[ci]? = some C0) (hcn : C0.1 = y.cls) (hc : CtI obj N y cc2 nL2 ret fr2 lo2 [.ref k0, a1, a2] σ (Pv v σ)) (hR : fr2 + 1 ≤ fr ∧ 8 + (nL2 + 11) + lo2 ≤ lo) (hW : (st.map fun v => v.category).sum ≤ 8) (kk : Go obj N X (pc + 3) lv (.int v :: st) σ) : Go obj N X pc lv (a2 :: a1 :: .ref k0 :: st) σ := go_V2I C K L d hk ho hcl hcn hc hR hW (fun r τ h => by rw [h.1, h.2]; exact kk)
theorem go_S3I (C : OkX obj N cc nL own fr lo X) {post : Int32 → Mem → Prop} {a1 a2 a3 : Value} (K : CodeOk y cc2 nL2 (some ret) 3) (L : LkS own idx y) (d : decode cc pc = .ok (.invokestatic idx, 3)) (hc : CtI obj N y cc2 nL2 ret fr2 lo2 [a1, a2, a3] σ post) (hR : fr2 + 1 ≤ fr ∧ 8 + (nL2 + 11) + lo2 ≤ lo) (hW : (st.map fun v => v.category).sum ≤ 8) (kk : ∀ (r : Int32) (τ : Mem), post r τ → Go obj N X (pc + 3) lv (.int r :: st) τ) : Go obj N X pc lv (a3 :: a2 :: a1 :: st) σ := go_cSI C K L d hc rfl hR hW rfl kk
theorem go_V3I (C : OkX obj N cc nL own fr lo X) {post : Int32 → Mem → Prop} {a1 a2 a3 : Value} {k0 ci : Nat} {fl : List (Option Nat)} {C0 : vw_C} (K : CodeOk y cc2 nL2 (some ret) 3) (L : LkV own idx y) (d : decode cc pc = .ok (.invokevirtual idx, 3)) (hk : k0 < N) (ho : obj k0 = .inl (ci, fl)) (hcl : vwCl[ci]? = some C0) (hcn : C0.1 = y.cls) (hc : CtI obj N y cc2 nL2 ret fr2 lo2 [.ref k0, a1, a2, a3] σ post) (hR : fr2 + 1 ≤ fr ∧ 8 + (nL2 + 11) + lo2 ≤ lo) (hW : (st.map fun v => v.category).sum ≤ 8) (kk : ∀ (r : Int32) (τ : Mem), post r τ → Go obj N X (pc + 3) lv (.int r :: st) τ) : Go obj N X pc lv (a3 :: a2 :: a1 :: .ref k0 :: st) σ := go_cVI C K L d hk ho hcl hcn hc rfl hR hW rfl kk
theorem go_S3P (C : OkX obj N cc nL own fr lo X) {v : Int32} {a1 a2 a3 : Value} (K : CodeOk y cc2 nL2 (some ret) 3) (L : LkS own idx y) (d : decode cc pc = .ok (.invokestatic idx, 3)) (hc : CtI obj N y cc2 nL2 ret fr2 lo2 [a1, a2, a3] σ (Pv v σ)) (hR : fr2 + 1 ≤ fr ∧ 8 + (nL2 + 11) + lo2 ≤ lo) (hW : (st.map fun v => v.category).sum ≤ 8) (kk : Go obj N X (pc + 3) lv (.int v :: st) σ) : Go obj N X pc lv (a3 :: a2 :: a1 :: st) σ := go_S3I C K L d hc hR hW (fun r τ h => by rw [h.1, h.2]; exact kk)
theorem go_V3P (C : OkX obj N cc nL own fr lo X) {v : Int32} {a1 a2 a3 : Value} {k0 ci : Nat} {fl : List (Option Nat)} {C0 : vw_C} (K : CodeOk y cc2 nL2 (some ret) 3) (L : LkV own idx y) (d : decode cc pc = .ok (.invokevirtual idx, 3)) (hk : k0 < N) (ho : obj k0 = .inl (ci, fl)) (hcl : vwCl[ci]? = some C0) (hcn : C0.1 = y.cls) (hc : CtI obj N y cc2 nL2 ret fr2 lo2 [.ref k0, a1, a2, a3] σ (Pv v σ)) (hR : fr2 + 1 ≤ fr ∧ 8 + (nL2 + 11) + lo2 ≤ lo) (hW : (st.map fun v => v.category).sum ≤ 8) (kk : Go obj N X (pc + 3) lv (.int v :: st) σ) : Go obj N X pc lv (a3 :: a2 :: a1 :: .ref k0 :: st) σ := go_V3I C K L d hk ho hcl hcn hc hR hW (fun r τ h => by rw [h.1, h.2]; exact kk)
theorem go_S4I (C : OkX obj N cc nL own fr lo X) {post : Int32 → Mem → Prop} {a1 a2 a3 a4 : Value} (K : CodeOk y cc2 nL2 (some ret) 4) (L : LkS own idx y) (d : decode cc pc = .ok (.invokestatic idx, 3)) (hc : CtI obj N y cc2 nL2 ret fr2 lo2 [a1, a2, a3, a4] σ post) (hR : fr2 + 1 ≤ fr ∧ 8 + (nL2 + 11) + lo2 ≤ lo) (hW : (st.map fun v => v.category).sum ≤ 8) (kk : ∀ (r : Int32) (τ : Mem), post r τ → Go obj N X (pc + 3) lv (.int r :: st) τ) : Go obj N X pc lv (a4 :: a3 :: a2 :: a1 :: st) σ := go_cSI C K L d hc rfl hR hW rfl kk
theorem go_V4I (C : OkX obj N cc nL own fr lo X) {post : Int32 → Mem → Prop} {a1 a2 a3 a4 : Value} {k0 ci : Nat} {fl : List (Option Nat)} {C0 : vw_C} (K : CodeOk y cc2 nL2 (some ret) 4) (L : LkV own idx y) (d : decode cc pc = .ok (.invokevirtual idx, 3)) (hk : k0 < N) (ho : obj k0 = .inl (ci, fl)) (hcl : vwCl[ci]? = some C0) (hcn : C0.1 = y.cls) (hc : CtI obj N y cc2 nL2 ret fr2 lo2 [.ref k0, a1, a2, a3, a4] σ post) (hR : fr2 + 1 ≤ fr ∧ 8 + (nL2 + 11) + lo2 ≤ lo) (hW : (st.map fun v => v.category).sum ≤ 8) (kk : ∀ (r : Int32) (τ : Mem), post r τ → Go obj N X (pc + 3) lv (.int r :: st) τ) : Go obj N X pc lv (a4 :: a3 :: a2 :: a1 :: .ref k0 :: st) σ := go_cVI C K L d hk ho hcl hcn hc rfl hR hW rfl kk
theorem go_S4P (C : OkX obj N cc nL own fr lo X) {v : Int32} {a1 a2 a3 a4 : Value} (K : CodeOk y cc2 nL2 (some ret) 4) (L : LkS own idx y) (d : decode cc pc = .ok (.invokestatic idx, 3)) (hc : CtI obj N y cc2 nL2 ret fr2 lo2 [a1, a2, a3, a4] σ (Pv v σ)) (hR : fr2 + 1 ≤ fr ∧ 8 + (nL2 + 11) + lo2 ≤ lo) (hW : (st.map fun v => v.category).sum ≤ 8) (kk : Go obj N X (pc + 3) lv (.int v :: st) σ) : Go obj N X pc lv (a4 :: a3 :: a2 :: a1 :: st) σ := go_S4I C K L d hc hR hW (fun r τ h => by rw [h.1, h.2]; exact kk)
theorem go_V4P (C : OkX obj N cc nL own fr lo X) {v : Int32} {a1 a2 a3 a4 : Value} {k0 ci : Nat} {fl : List (Option Nat)} {C0 : vw_C} (K : CodeOk y cc2 nL2 (some ret) 4) (L : LkV own idx y) (d : decode cc pc = .ok (.invokevirtual idx, 3)) (hk : k0 < N) (ho : obj k0 = .inl (ci, fl)) (hcl : vwCl[ci]? = some C0) (hcn : C0.1 = y.cls) (hc : CtI obj N y cc2 nL2 ret fr2 lo2 [.ref k0, a1, a2, a3, a4] σ (Pv v σ)) (hR : fr2 + 1 ≤ fr ∧ 8 + (nL2 + 11) + lo2 ≤ lo) (hW : (st.map fun v => v.category).sum ≤ 8) (kk : Go obj N X (pc + 3) lv (.int v :: st) σ) : Go obj N X pc lv (a4 :: a3 :: a2 :: a1 :: .ref k0 :: st) σ := go_V4I C K L d hk ho hcl hcn hc hR hW (fun r τ h => by rw [h.1, h.2]; exact kk)
theorem go_S5I (C : OkX obj N cc nL own fr lo X) {post : Int32 → Mem → Prop} {a1 a2 a3 a4 a5 : Value} (K : CodeOk y cc2 nL2 (some ret) 5) (L : LkS own idx y) (d : decode cc pc = .ok (.invokestatic idx, 3)) (hc : CtI obj N y cc2 nL2 ret fr2 lo2 [a1, a2, a3, a4, a5] σ post) (hR : fr2 + 1 ≤ fr ∧ 8 + (nL2 + 11) + lo2 ≤ lo) (hW : (st.map fun v => v.category).sum ≤ 8) (kk : ∀ (r : Int32) (τ : Mem), post r τ → Go obj N X (pc + 3) lv (.int r :: st) τ) : Go obj N X pc lv (a5 :: a4 :: a3 :: a2 :: a1 :: st) σ := go_cSI C K L d hc rfl hR hW rfl kk
theorem go_V5I (C : OkX obj N cc nL own fr lo X) {post : Int32 → Mem → Prop} {a1 a2 a3 a4 a5 : Value} {k0 ci : Nat} {fl : List (Option Nat)} {C0 : vw_C} (K : CodeOk y cc2 nL2 (some ret) 5) (L : LkV own idx y) (d : decode cc pc = .ok (.invokevirtual idx, 3)) (hk : k0 < N) (ho : obj k0 = .inl (ci, fl)) (hcl : vwCl[ci]? = some C0) (hcn : C0.1 = y.cls) (hc : CtI obj N y cc2 nL2 ret fr2 lo2 [.ref k0, a1, a2, a3, a4, a5] σ post) (hR : fr2 + 1 ≤ fr ∧ 8 + (nL2 + 11) + lo2 ≤ lo) (hW : (st.map fun v => v.category).sum ≤ 8) (kk : ∀ (r : Int32) (τ : Mem), post r τ → Go obj N X (pc + 3) lv (.int r :: st) τ) : Go obj N X pc lv (a5 :: a4 :: a3 :: a2 :: a1 :: .ref k0 :: st) σ := go_cVI C K L d hk ho hcl hcn hc rfl hR hW rfl kk
theorem go_S5P (C : OkX obj N cc nL own fr lo X) {v : Int32} {a1 a2 a3 a4 a5 : Value} (K : CodeOk y cc2 nL2 (some ret) 5) (L : LkS own idx y) (d : decode cc pc = .ok (.invokestatic idx, 3)) (hc : CtI obj N y cc2 nL2 ret fr2 lo2 [a1, a2, a3, a4, a5] σ (Pv v σ)) (hR : fr2 + 1 ≤ fr ∧ 8 + (nL2 + 11) + lo2 ≤ lo) (hW : (st.map fun v => v.category).sum ≤ 8) (kk : Go obj N X (pc + 3) lv (.int v :: st) σ) : Go obj N X pc lv (a5 :: a4 :: a3 :: a2 :: a1 :: st) σ := go_S5I C K L d hc hR hW (fun r τ h => by rw [h.1, h.2]; exact kk)
theorem go_V5P (C : OkX obj N cc nL own fr lo X) {v : Int32} {a1 a2 a3 a4 a5 : Value} {k0 ci : Nat} {fl : List (Option Nat)} {C0 : vw_C} (K : CodeOk y cc2 nL2 (some ret) 5) (L : LkV own idx y) (d : decode cc pc = .ok (.invokevirtual idx, 3)) (hk : k0 < N) (ho : obj k0 = .inl (ci, fl)) (hcl : vwCl[ci]? = some C0) (hcn : C0.1 = y.cls) (hc : CtI obj N y cc2 nL2 ret fr2 lo2 [.ref k0, a1, a2, a3, a4, a5] σ (Pv v σ)) (hR : fr2 + 1 ≤ fr ∧ 8 + (nL2 + 11) + lo2 ≤ lo) (hW : (st.map fun v => v.category).sum ≤ 8) (kk : Go obj N X (pc + 3) lv (.int v :: st) σ) : Go obj N X pc lv (a5 :: a4 :: a3 :: a2 :: a1 :: .ref k0 :: st) σ := go_V5I C K L d hk ho hcl hcn hc hR hW (fun r τ h => by rw [h.1, h.2]; exact kk)
theorem go_S6I (C : OkX obj N cc nL own fr lo X) {post : Int32 → Mem → Prop} {a1 a2 a3 a4 a5 a6 : Value} (K : CodeOk y cc2 nL2 (some ret) 6) (L : LkS own idx y) (d : decode cc pc = .ok (.invokestatic idx, 3)) (hc : CtI obj N y cc2 nL2 ret fr2 lo2 [a1, a2, a3, a4, a5, a6] σ post) (hR : fr2 + 1 ≤ fr ∧ 8 + (nL2 + 11) + lo2 ≤ lo) (hW : (st.map fun v => v.category).sum ≤ 8) (kk : ∀ (r : Int32) (τ : Mem), post r τ → Go obj N X (pc + 3) lv (.int r :: st) τ) : Go obj N X pc lv (a6 :: a5 :: a4 :: a3 :: a2 :: a1 :: st) σ := go_cSI C K L d hc rfl hR hW rfl kk
theorem go_V6I (C : OkX obj N cc nL own fr lo X) {post : Int32 → Mem → Prop} {a1 a2 a3 a4 a5 a6 : Value} {k0 ci : Nat} {fl : List (Option Nat)} {C0 : vw_C} (K : CodeOk y cc2 nL2 (some ret) 6) (L : LkV own idx y) (d : decode cc pc = .ok (.invokevirtual idx, 3)) (hk : k0 < N) (ho : obj k0 = .inl (ci, fl)) (hcl : vwCl[ci]? = some C0) (hcn : C0.1 = y.cls) (hc : CtI obj N y cc2 nL2 ret fr2 lo2 [.ref k0, a1, a2, a3, a4, a5, a6] σ post) (hR : fr2 + 1 ≤ fr ∧ 8 + (nL2 + 11) + lo2 ≤ lo) (hW : (st.map fun v => v.category).sum ≤ 8) (kk : ∀ (r : Int32) (τ : Mem), post r τ → Go obj N X (pc + 3) lv (.int r :: st) τ) : Go obj N X pc lv (a6 :: a5 :: a4 :: a3 :: a2 :: a1 :: .ref k0 :: st) σ := go_cVI C K L d hk ho hcl hcn hc rfl hR hW rfl kk
theorem go_S6P (C : OkX obj N cc nL own fr lo X) {v : Int32} {a1 a2 a3 a4 a5 a6 : Value} (K : CodeOk y cc2 nL2 (some ret) 6) (L : LkS own idx y) (d : decode cc pc = .ok (.invokestatic idx, 3)) (hc : CtI obj N y cc2 nL2 ret fr2 lo2 [a1, a2, a3, a4, a5, a6] σ (Pv v σ)) (hR : fr2 + 1 ≤ fr ∧ 8 + (nL2 + 11) + lo2 ≤ lo) (hW : (st.map fun v => v.category).sum ≤ 8) (kk : Go obj N X (pc + 3) lv (.int v :: st) σ) : Go obj N X pc lv (a6 :: a5 :: a4 :: a3 :: a2 :: a1 :: st) σ := go_S6I C K L d hc hR hW (fun r τ h => by rw [h.1, h.2]; exact kk)
theorem go_V6P (C : OkX obj N cc nL own fr lo X) {v : Int32} {a1 a2 a3 a4 a5 a6 : Value} {k0 ci : Nat} {fl : List (Option Nat)} {C0 : vw_C} (K : CodeOk y cc2 nL2 (some ret) 6) (L : LkV own idx y) (d : decode cc pc = .ok (.invokevirtual idx, 3)) (hk : k0 < N) (ho : obj k0 = .inl (ci, fl)) (hcl : vwCl[ci]? = some C0) (hcn : C0.1 = y.cls) (hc : CtI obj N y cc2 nL2 ret fr2 lo2 [.ref k0, a1, a2, a3, a4, a5, a6] σ (Pv v σ)) (hR : fr2 + 1 ≤ fr ∧ 8 + (nL2 + 11) + lo2 ≤ lo) (hW : (st.map fun v => v.category).sum ≤ 8) (kk : Go obj N X (pc + 3) lv (.int v :: st) σ) : Go obj N X pc lv (a6 :: a5 :: a4 :: a3 :: a2 :: a1 :: .ref k0 :: st) σ := go_V6I C K L d hk ho hcl hcn hc hR hW (fun r τ h => by rw [h.1, h.2]; exact kk)
theorem go_S7I (C : OkX obj N cc nL own fr lo X) {post : Int32 → Mem → Prop} {a1 a2 a3 a4 a5 a6 a7 : Value} (K : CodeOk y cc2 nL2 (some ret) 7) (L : LkS own idx y) (d : decode cc pc = .ok (.invokestatic idx, 3)) (hc : CtI obj N y cc2 nL2 ret fr2 lo2 [a1, a2, a3, a4, a5, a6, a7] σ post) (hR : fr2 + 1 ≤ fr ∧ 8 + (nL2 + 11) + lo2 ≤ lo) (hW : (st.map fun v => v.category).sum ≤ 8) (kk : ∀ (r : Int32) (τ : Mem), post r τ → Go obj N X (pc + 3) lv (.int r :: st) τ) : Go obj N X pc lv (a7 :: a6 :: a5 :: a4 :: a3 :: a2 :: a1 :: st) σ := go_cSI C K L d hc rfl hR hW rfl kk
theorem go_V7I (C : OkX obj N cc nL own fr lo X) {post : Int32 → Mem → Prop} {a1 a2 a3 a4 a5 a6 a7 : Value} {k0 ci : Nat} {fl : List (Option Nat)} {C0 : vw_C} (K : CodeOk y cc2 nL2 (some ret) 7) (L : LkV own idx y) (d : decode cc pc = .ok (.invokevirtual idx, 3)) (hk : k0 < N) (ho : obj k0 = .inl (ci, fl)) (hcl : vwCl[ci]? = some C0) (hcn : C0.1 = y.cls) (hc : CtI obj N y cc2 nL2 ret fr2 lo2 [.ref k0, a1, a2, a3, a4, a5, a6, a7] σ post) (hR : fr2 + 1 ≤ fr ∧ 8 + (nL2 + 11) + lo2 ≤ lo) (hW : (st.map fun v => v.category).sum ≤ 8) (kk : ∀ (r : Int32) (τ : Mem), post r τ → Go obj N X (pc + 3) lv (.int r :: st) τ) : Go obj N X pc lv (a7 :: a6 :: a5 :: a4 :: a3 :: a2 :: a1 :: .ref k0 :: st) σ := go_cVI C K L d hk ho hcl hcn hc rfl hR hW rfl kk
theorem go_S7P (C : OkX obj N cc nL own fr lo X) {v : Int32} {a1 a2 a3 a4 a5 a6 a7 : Value} (K : CodeOk y cc2 nL2 (some ret) 7) (L : LkS own idx y) (d : decode cc pc = .ok (.invokestatic idx, 3)) (hc : CtI obj N y cc2 nL2 ret fr2 lo2 [a1, a2, a3, a4, a5, a6, a7] σ (Pv v σ)) (hR : fr2 + 1 ≤ fr ∧ 8 + (nL2 + 11) + lo2 ≤ lo) (hW : (st.map fun v => v.category).sum ≤ 8) (kk : Go obj N X (pc + 3) lv (.int v :: st) σ) : Go obj N X pc lv (a7 :: a6 :: a5 :: a4 :: a3 :: a2 :: a1 :: st) σ := go_S7I C K L d hc hR hW (fun r τ h => by rw [h.1, h.2]; exact kk)
theorem go_V7P (C : OkX obj N cc nL own fr lo X) {v : Int32} {a1 a2 a3 a4 a5 a6 a7 : Value} {k0 ci : Nat} {fl : List (Option Nat)} {C0 : vw_C} (K : CodeOk y cc2 nL2 (some ret) 7) (L : LkV own idx y) (d : decode cc pc = .ok (.invokevirtual idx, 3)) (hk : k0 < N) (ho : obj k0 = .inl (ci, fl)) (hcl : vwCl[ci]? = some C0) (hcn : C0.1 = y.cls) (hc : CtI obj N y cc2 nL2 ret fr2 lo2 [.ref k0, a1, a2, a3, a4, a5, a6, a7] σ (Pv v σ)) (hR : fr2 + 1 ≤ fr ∧ 8 + (nL2 + 11) + lo2 ≤ lo) (hW : (st.map fun v => v.category).sum ≤ 8) (kk : Go obj N X (pc + 3) lv (.int v :: st) σ) : Go obj N X pc lv (a7 :: a6 :: a5 :: a4 :: a3 :: a2 :: a1 :: .ref k0 :: st) σ := go_V7I C K L d hk ho hcl hcn hc hR hW (fun r τ h => by rw [h.1, h.2]; exact kk)
theorem go_V0V (C : OkX obj N cc nL own fr lo X) {post : Mem → Prop} {k0 ci : Nat} {fl : List (Option Nat)} {C0 : vw_C} (K : CodeOk y cc2 nL2 none 0) (L : LkV own idx y) (d : decode cc pc = .ok (.invokevirtual idx, 3)) (hk : k0 < N) (ho : obj k0 = .inl (ci, fl)) (hcl : vwCl[ci]? = some C0) (hcn : C0.1 = y.cls) (hc : CtV obj N y cc2 nL2 fr2 lo2 [.ref k0] σ post) (hR : fr2 + 1 ≤ fr ∧ 8 + (nL2 + 11) + lo2 ≤ lo) (hW : (st.map fun v => v.category).sum ≤ 8) (kk : ∀ (τ : Mem), post τ → Go obj N X (pc + 3) lv st τ) : Go obj N X pc lv (.ref k0 :: st) σ := go_cVV C K L d hk ho hcl hcn hc rfl hR hW rfl kk
theorem go_S1V (C : OkX obj N cc nL own fr lo X) {post : Mem → Prop} {a1 : Value} (K : CodeOk y cc2 nL2 none 1) (L : LkS own idx y) (d : decode cc pc = .ok (.invokestatic idx, 3)) (hc : CtV obj N y cc2 nL2 fr2 lo2 [a1] σ post) (hR : fr2 + 1 ≤ fr ∧ 8 + (nL2 + 11) + lo2 ≤ lo) (hW : (st.map fun v => v.category).sum ≤ 8) (kk : ∀ (τ : Mem), post τ → Go obj N X (pc + 3) lv st τ) : Go obj N X pc lv (a1 :: st) σ := go_cSV C K L d hc rfl hR hW rfl kk
theorem go_N1V (C : OkX obj N cc nL own fr lo X) {post : Mem → Prop} {a1 : Value} {host : String} (K : CodeOk y cc2 nL2 none 1) (L : LkN own idx y host) (d : decode cc pc = .ok (.invokestatic idx, 3)) (hc : CtV obj N y cc2 nL2 fr2 lo2 [a1] σ post) (hR : fr2 + 1 ≤ fr ∧ 8 + (nL2 + 11) + lo2 ≤ lo) (hW : (st.map fun v => v.category).sum ≤ 8) (kk : ∀ (τ : Mem), post τ → Go obj N X (pc + 3) lv st τ) : Go obj N X pc lv (a1 :: st) σ := go_cNV C K L d hc rfl hR hW rfl kk
theorem go_V1V (C : OkX obj N cc nL own fr lo X) {post : Mem → Prop} {a1 : Value} {k0 ci : Nat} {fl : List (Option Nat)} {C0 : vw_C} (K : CodeOk y cc2 nL2 none 1) (L : LkV own idx y) (d : decode cc pc = .ok (.invokevirtual idx, 3)) (hk : k0 < N) (ho : obj k0 = .inl (ci, fl)) (hcl : vwCl[ci]? = some C0) (hcn : C0.1 = y.cls) (hc : CtV obj N y cc2 nL2 fr2 lo2 [.ref k0, a1] σ post) (hR : fr2 + 1 ≤ fr ∧ 8 + (nL2 + 11) + lo2 ≤ lo) (hW : (st.map fun v => v.category).sum ≤ 8) (kk : ∀ (τ : Mem), post τ → Go obj N X (pc + 3) lv st τ) : Go obj N X pc lv (a1 :: .ref k0 :: st) σ := go_cVV C K L d hk ho hcl hcn hc rfl hR hW rfl kk
theorem go_S2V (C : OkX obj N cc nL own fr lo X) {post : Mem → Prop} {a1 a2 : Value} (K : CodeOk y cc2 nL2 none 2) (L : LkS own idx y) (d : decode cc pc = .ok (.invokestatic idx, 3)) (hc : CtV obj N y cc2 nL2 fr2 lo2 [a1, a2] σ post) (hR : fr2 + 1 ≤ fr ∧ 8 + (nL2 + 11) + lo2 ≤ lo) (hW : (st.map fun v => v.category).sum ≤ 8) (kk : ∀ (τ : Mem), post τ → Go obj N X (pc + 3) lv st τ) : Go obj N X pc lv (a2 :: a1 :: st) σ := go_cSV C K L d hc rfl hR hW rfl kk
theorem go_V2V (C : OkX obj N cc nL own fr lo X) {post : Mem → Prop} {a1 a2 : Value} {k0 ci : Nat} {fl : List (Option Nat)} {C0 : vw_C} (K : CodeOk y cc2 nL2 none 2) (L : LkV own idx y) (d : decode cc pc = .ok (.invokevirtual idx, 3)) (hk : k0 < N) (ho : obj k0 = .inl (ci, fl)) (hcl : vwCl[ci]? = some C0) (hcn : C0.1 = y.cls) (hc : CtV obj N y cc2 nL2 fr2 lo2 [.ref k0, a1, a2] σ post) (hR : fr2 + 1 ≤ fr ∧ 8 + (nL2 + 11) + lo2 ≤ lo) (hW : (st.map fun v => v.category).sum ≤ 8) (kk : ∀ (τ : Mem), post τ → Go obj N X (pc + 3) lv st τ) : Go obj N X pc lv (a2 :: a1 :: .ref k0 :: st) σ := go_cVV C K L d hk ho hcl hcn hc rfl hR hW rfl kk
theorem go_S3V (C : OkX obj N cc nL own fr lo X) {post : Mem → Prop} {a1 a2 a3 : Value} (K : CodeOk y cc2 nL2 none 3) (L : LkS own idx y) (d : decode cc pc = .ok (.invokestatic idx, 3)) (hc : CtV obj N y cc2 nL2 fr2 lo2 [a1, a2, a3] σ post) (hR : fr2 + 1 ≤ fr ∧ 8 + (nL2 + 11) + lo2 ≤ lo) (hW : (st.map fun v => v.category).sum ≤ 8) (kk : ∀ (τ : Mem), post τ → Go obj N X (pc + 3) lv st τ) : Go obj N X pc lv (a3 :: a2 :: a1 :: st) σ := go_cSV C K L d hc rfl hR hW rfl kk
theorem go_V3V (C : OkX obj N cc nL own fr lo X) {post : Mem → Prop} {a1 a2 a3 : Value} {k0 ci : Nat} {fl : List (Option Nat)} {C0 : vw_C} (K : CodeOk y cc2 nL2 none 3) (L : LkV own idx y) (d : decode cc pc = .ok (.invokevirtual idx, 3)) (hk : k0 < N) (ho : obj k0 = .inl (ci, fl)) (hcl : vwCl[ci]? = some C0) (hcn : C0.1 = y.cls) (hc : CtV obj N y cc2 nL2 fr2 lo2 [.ref k0, a1, a2, a3] σ post) (hR : fr2 + 1 ≤ fr ∧ 8 + (nL2 + 11) + lo2 ≤ lo) (hW : (st.map fun v => v.category).sum ≤ 8) (kk : ∀ (τ : Mem), post τ → Go obj N X (pc + 3) lv st τ) : Go obj N X pc lv (a3 :: a2 :: a1 :: .ref k0 :: st) σ := go_cVV C K L d hk ho hcl hcn hc rfl hR hW rfl kk
theorem go_S4V (C : OkX obj N cc nL own fr lo X) {post : Mem → Prop} {a1 a2 a3 a4 : Value} (K : CodeOk y cc2 nL2 none 4) (L : LkS own idx y) (d : decode cc pc = .ok (.invokestatic idx, 3)) (hc : CtV obj N y cc2 nL2 fr2 lo2 [a1, a2, a3, a4] σ post) (hR : fr2 + 1 ≤ fr ∧ 8 + (nL2 + 11) + lo2 ≤ lo) (hW : (st.map fun v => v.category).sum ≤ 8) (kk : ∀ (τ : Mem), post τ → Go obj N X (pc + 3) lv st τ) : Go obj N X pc lv (a4 :: a3 :: a2 :: a1 :: st) σ := go_cSV C K L d hc rfl hR hW rfl kk
theorem go_V4V (C : OkX obj N cc nL own fr lo X) {post : Mem → Prop} {a1 a2 a3 a4 : Value} {k0 ci : Nat} {fl : List (Option Nat)} {C0 : vw_C} (K : CodeOk y cc2 nL2 none 4) (L : LkV own idx y) (d : decode cc pc = .ok (.invokevirtual idx, 3)) (hk : k0 < N) (ho : obj k0 = .inl (ci, fl)) (hcl : vwCl[ci]? = some C0) (hcn : C0.1 = y.cls) (hc : CtV obj N y cc2 nL2 fr2 lo2 [.ref k0, a1, a2, a3, a4] σ post) (hR : fr2 + 1 ≤ fr ∧ 8 + (nL2 + 11) + lo2 ≤ lo) (hW : (st.map fun v => v.category).sum ≤ 8) (kk : ∀ (τ : Mem), post τ → Go obj N X (pc + 3) lv st τ) : Go obj N X pc lv (a4 :: a3 :: a2 :: a1 :: .ref k0 :: st) σ := go_cVV C K L d hk ho hcl hcn hc rfl hR hW rfl kk
theorem go_S5V (C : OkX obj N cc nL own fr lo X) {post : Mem → Prop} {a1 a2 a3 a4 a5 : Value} (K : CodeOk y cc2 nL2 none 5) (L : LkS own idx y) (d : decode cc pc = .ok (.invokestatic idx, 3)) (hc : CtV obj N y cc2 nL2 fr2 lo2 [a1, a2, a3, a4, a5] σ post) (hR : fr2 + 1 ≤ fr ∧ 8 + (nL2 + 11) + lo2 ≤ lo) (hW : (st.map fun v => v.category).sum ≤ 8) (kk : ∀ (τ : Mem), post τ → Go obj N X (pc + 3) lv st τ) : Go obj N X pc lv (a5 :: a4 :: a3 :: a2 :: a1 :: st) σ := go_cSV C K L d hc rfl hR hW rfl kk
theorem go_V5V (C : OkX obj N cc nL own fr lo X) {post : Mem → Prop} {a1 a2 a3 a4 a5 : Value} {k0 ci : Nat} {fl : List (Option Nat)} {C0 : vw_C} (K : CodeOk y cc2 nL2 none 5) (L : LkV own idx y) (d : decode cc pc = .ok (.invokevirtual idx, 3)) (hk : k0 < N) (ho : obj k0 = .inl (ci, fl)) (hcl : vwCl[ci]? = some C0) (hcn : C0.1 = y.cls) (hc : CtV obj N y cc2 nL2 fr2 lo2 [.ref k0, a1, a2, a3, a4, a5] σ post) (hR : fr2 + 1 ≤ fr ∧ 8 + (nL2 + 11) + lo2 ≤ lo) (hW : (st.map fun v => v.category).sum ≤ 8) (kk : ∀ (τ : Mem), post τ → Go obj N X (pc + 3) lv st τ) : Go obj N X pc lv (a5 :: a4 :: a3 :: a2 :: a1 :: .ref k0 :: st) σ := go_cVV C K L d hk ho hcl hcn hc rfl hR hW rfl kk
theorem go_S6V (C : OkX obj N cc nL own fr lo X) {post : Mem → Prop} {a1 a2 a3 a4 a5 a6 : Value} (K : CodeOk y cc2 nL2 none 6) (L : LkS own idx y) (d : decode cc pc = .ok (.invokestatic idx, 3)) (hc : CtV obj N y cc2 nL2 fr2 lo2 [a1, a2, a3, a4, a5, a6] σ post) (hR : fr2 + 1 ≤ fr ∧ 8 + (nL2 + 11) + lo2 ≤ lo) (hW : (st.map fun v => v.category).sum ≤ 8) (kk : ∀ (τ : Mem), post τ → Go obj N X (pc + 3) lv st τ) : Go obj N X pc lv (a6 :: a5 :: a4 :: a3 :: a2 :: a1 :: st) σ := go_cSV C K L d hc rfl hR hW rfl kk
theorem go_V6V (C : OkX obj N cc nL own fr lo X) {post : Mem → Prop} {a1 a2 a3 a4 a5 a6 : Value} {k0 ci : Nat} {fl : List (Option Nat)} {C0 : vw_C} (K : CodeOk y cc2 nL2 none 6) (L : LkV own idx y) (d : decode cc pc = .ok (.invokevirtual idx, 3)) (hk : k0 < N) (ho : obj k0 = .inl (ci, fl)) (hcl : vwCl[ci]? = some C0) (hcn : C0.1 = y.cls) (hc : CtV obj N y cc2 nL2 fr2 lo2 [.ref k0, a1, a2, a3, a4, a5, a6] σ post) (hR : fr2 + 1 ≤ fr ∧ 8 + (nL2 + 11) + lo2 ≤ lo) (hW : (st.map fun v => v.category).sum ≤ 8) (kk : ∀ (τ : Mem), post τ → Go obj N X (pc + 3) lv st τ) : Go obj N X pc lv (a6 :: a5 :: a4 :: a3 :: a2 :: a1 :: .ref k0 :: st) σ := go_cVV C K L d hk ho hcl hcn hc rfl hR hW rfl kk
theorem go_S7V (C : OkX obj N cc nL own fr lo X) {post : Mem → Prop} {a1 a2 a3 a4 a5 a6 a7 : Value} (K : CodeOk y cc2 nL2 none 7) (L : LkS own idx y) (d : decode cc pc = .ok (.invokestatic idx, 3)) (hc : CtV obj N y cc2 nL2 fr2 lo2 [a1, a2, a3, a4, a5, a6, a7] σ post) (hR : fr2 + 1 ≤ fr ∧ 8 + (nL2 + 11) + lo2 ≤ lo) (hW : (st.map fun v => v.category).sum ≤ 8) (kk : ∀ (τ : Mem), post τ → Go obj N X (pc + 3) lv st τ) : Go obj N X pc lv (a7 :: a6 :: a5 :: a4 :: a3 :: a2 :: a1 :: st) σ := go_cSV C K L d hc rfl hR hW rfl kk
theorem go_V7V (C : OkX obj N cc nL own fr lo X) {post : Mem → Prop} {a1 a2 a3 a4 a5 a6 a7 : Value} {k0 ci : Nat} {fl : List (Option Nat)} {C0 : vw_C} (K : CodeOk y cc2 nL2 none 7) (L : LkV own idx y) (d : decode cc pc = .ok (.invokevirtual idx, 3)) (hk : k0 < N) (ho : obj k0 = .inl (ci, fl)) (hcl : vwCl[ci]? = some C0) (hcn : C0.1 = y.cls) (hc : CtV obj N y cc2 nL2 fr2 lo2 [.ref k0, a1, a2, a3, a4, a5, a6, a7] σ post) (hR : fr2 + 1 ≤ fr ∧ 8 + (nL2 + 11) + lo2 ≤ lo) (hW : (st.map fun v => v.category).sum ≤ 8) (kk : ∀ (τ : Mem), post τ → Go obj N X (pc + 3) lv st τ) : Go obj N X pc lv (a7 :: a6 :: a5 :: a4 :: a3 :: a2 :: a1 :: .ref k0 :: st) σ := go_cVV C K L d hk ho hcl hcn hc rfl hR hW rfl kk
theorem go_V0L (C : OkX obj N cc nL own fr lo X) {post : Int64 → Mem → Prop} {k0 ci : Nat} {fl : List (Option Nat)} {C0 : vw_C} (K : CodeOk y cc2 nL2 (some .long) 0) (L : LkV own idx y) (d : decode cc pc = .ok (.invokevirtual idx, 3)) (hk : k0 < N) (ho : obj k0 = .inl (ci, fl)) (hcl : vwCl[ci]? = some C0) (hcn : C0.1 = y.cls) (hc : CtL obj N y cc2 nL2 fr2 lo2 [.ref k0] σ post) (hR : fr2 + 1 ≤ fr ∧ 8 + (nL2 + 11) + lo2 ≤ lo) (hW : (st.map fun v => v.category).sum ≤ 8) (kk : ∀ (r : Int64) (τ : Mem), post r τ → Go obj N X (pc + 3) lv (.long r :: st) τ) : Go obj N X pc lv (.ref k0 :: st) σ := go_cVL C K L d hk ho hcl hcn hc rfl hR hW rfl kk
theorem go_S1L (C : OkX obj N cc nL own fr lo X) {post : Int64 → Mem → Prop} {a1 : Value} (K : CodeOk y cc2 nL2 (some .long) 1) (L : LkS own idx y) (d : decode cc pc = .ok (.invokestatic idx, 3)) (hc : CtL obj N y cc2 nL2 fr2 lo2 [a1] σ post) (hR : fr2 + 1 ≤ fr ∧ 8 + (nL2 + 11) + lo2 ≤ lo) (hW : (st.map fun v => v.category).sum ≤ 8) (kk : ∀ (r : Int64) (τ : Mem), post r τ → Go obj N X (pc + 3) lv (.long r :: st) τ) : Go obj N X pc lv (a1 :: st) σ := go_cSL C K L d hc rfl hR hW rfl kk
theorem go_N1L (C : OkX obj N cc nL own fr lo X) {post : Int64 → Mem → Prop} {a1 : Value} {host : String} (K : CodeOk y cc2 nL2 (some .long) 1) (L : LkN own idx y host) (d : decode cc pc = .ok (.invokestatic idx, 3)) (hc : CtL obj N y cc2 nL2 fr2 lo2 [a1] σ post) (hR : fr2 + 1 ≤ fr ∧ 8 + (nL2 + 11) + lo2 ≤ lo) (hW : (st.map fun v => v.category).sum ≤ 8) (kk : ∀ (r : Int64) (τ : Mem), post r τ → Go obj N X (pc + 3) lv (.long r :: st) τ) : Go obj N X pc lv (a1 :: st) σ := go_cNL C K L d hc rfl hR hW rfl kk
theorem go_V1L (C : OkX obj N cc nL own fr lo X) {post : Int64 → Mem → Prop} {a1 : Value} {k0 ci : Nat} {fl : List (Option Nat)} {C0 : vw_C} (K : CodeOk y cc2 nL2 (some .long) 1) (L : LkV own idx y) (d : decode cc pc = .ok (.invokevirtual idx, 3)) (hk : k0 < N) (ho : obj k0 = .inl (ci, fl)) (hcl : vwCl[ci]? = some C0) (hcn : C0.1 = y.cls) (hc : CtL obj N y cc2 nL2 fr2 lo2 [.ref k0, a1] σ post) (hR : fr2 + 1 ≤ fr ∧ 8 + (nL2 + 11) + lo2 ≤ lo) (hW : (st.map fun v => v.category).sum ≤ 8) (kk : ∀ (r : Int64) (τ : Mem), post r τ → Go obj N X (pc + 3) lv (.long r :: st) τ) : Go obj N X pc lv (a1 :: .ref k0 :: st) σ := go_cVL C K L d hk ho hcl hcn hc rfl hR hW rfl kk
theorem go_S2L (C : OkX obj N cc nL own fr lo X) {post : Int64 → Mem → Prop} {a1 a2 : Value} (K : CodeOk y cc2 nL2 (some .long) 2) (L : LkS own idx y) (d : decode cc pc = .ok (.invokestatic idx, 3)) (hc : CtL obj N y cc2 nL2 fr2 lo2 [a1, a2] σ post) (hR : fr2 + 1 ≤ fr ∧ 8 + (nL2 + 11) + lo2 ≤ lo) (hW : (st.map fun v => v.category).sum ≤ 8) (kk : ∀ (r : Int64) (τ : Mem), post r τ → Go obj N X (pc + 3) lv (.long r :: st) τ) : Go obj N X pc lv (a2 :: a1 :: st) σ := go_cSL C K L d hc rfl hR hW rfl kk
theorem go_V2L (C : OkX obj N cc nL own fr lo X) {post : Int64 → Mem → Prop} {a1 a2 : Value} {k0 ci : Nat} {fl : List (Option Nat)} {C0 : vw_C} (K : CodeOk y cc2 nL2 (some .long) 2) (L : LkV own idx y) (d : decode cc pc = .ok (.invokevirtual idx, 3)) (hk : k0 < N) (ho : obj k0 = .inl (ci, fl)) (hcl : vwCl[ci]? = some C0) (hcn : C0.1 = y.cls) (hc : CtL obj N y cc2 nL2 fr2 lo2 [.ref k0, a1, a2] σ post) (hR : fr2 + 1 ≤ fr ∧ 8 + (nL2 + 11) + lo2 ≤ lo) (hW : (st.map fun v => v.category).sum ≤ 8) (kk : ∀ (r : Int64) (τ : Mem), post r τ → Go obj N X (pc + 3) lv (.long r :: st) τ) : Go obj N X pc lv (a2 :: a1 :: .ref k0 :: st) σ := go_cVL C K L d hk ho hcl hcn hc rfl hR hW rfl kk
theorem go_S3L (C : OkX obj N cc nL own fr lo X) {post : Int64 → Mem → Prop} {a1 a2 a3 : Value} (K : CodeOk y cc2 nL2 (some .long) 3) (L : LkS own idx y) (d : decode cc pc = .ok (.invokestatic idx, 3)) (hc : CtL obj N y cc2 nL2 fr2 lo2 [a1, a2, a3] σ post) (hR : fr2 + 1 ≤ fr ∧ 8 + (nL2 + 11) + lo2 ≤ lo) (hW : (st.map fun v => v.category).sum ≤ 8) (kk : ∀ (r : Int64) (τ : Mem), post r τ → Go obj N X (pc + 3) lv (.long r :: st) τ) : Go obj N X pc lv (a3 :: a2 :: a1 :: st) σ := go_cSL C K L d hc rfl hR hW rfl kk
theorem go_V3L (C : OkX obj N cc nL own fr lo X) {post : Int64 → Mem → Prop} {a1 a2 a3 : Value} {k0 ci : Nat} {fl : List (Option Nat)} {C0 : vw_C} (K : CodeOk y cc2 nL2 (some .long) 3) (L : LkV own idx y) (d : decode cc pc = .ok (.invokevirtual idx, 3)) (hk : k0 < N) (ho : obj k0 = .inl (ci, fl)) (hcl : vwCl[ci]? = some C0) (hcn : C0.1 = y.cls) (hc : CtL obj N y cc2 nL2 fr2 lo2 [.ref k0, a1, a2, a3] σ post) (hR : fr2 + 1 ≤ fr ∧ 8 + (nL2 + 11) + lo2 ≤ lo) (hW : (st.map fun v => v.category).sum ≤ 8) (kk : ∀ (r : Int64) (τ : Mem), post r τ → Go obj N X (pc + 3) lv (.long r :: st) τ) : Go obj N X pc lv (a3 :: a2 :: a1 :: .ref k0 :: st) σ := go_cVL C K L d hk ho hcl hcn hc rfl hR hW rfl kk
theorem go_S4L (C : OkX obj N cc nL own fr lo X) {post : Int64 → Mem → Prop} {a1 a2 a3 a4 : Value} (K : CodeOk y cc2 nL2 (some .long) 4) (L : LkS own idx y) (d : decode cc pc = .ok (.invokestatic idx, 3)) (hc : CtL obj N y cc2 nL2 fr2 lo2 [a1, a2, a3, a4] σ post) (hR : fr2 + 1 ≤ fr ∧ 8 + (nL2 + 11) + lo2 ≤ lo) (hW : (st.map fun v => v.category).sum ≤ 8) (kk : ∀ (r : Int64) (τ : Mem), post r τ → Go obj N X (pc + 3) lv (.long r :: st) τ) : Go obj N X pc lv (a4 :: a3 :: a2 :: a1 :: st) σ := go_cSL C K L d hc rfl hR hW rfl kk
theorem go_V4L (C : OkX obj N cc nL own fr lo X) {post : Int64 → Mem → Prop} {a1 a2 a3 a4 : Value} {k0 ci : Nat} {fl : List (Option Nat)} {C0 : vw_C} (K : CodeOk y cc2 nL2 (some .long) 4) (L : LkV own idx y) (d : decode cc pc = .ok (.invokevirtual idx, 3)) (hk : k0 < N) (ho : obj k0 = .inl (ci, fl)) (hcl : vwCl[ci]? = some C0) (hcn : C0.1 = y.cls) (hc : CtL obj N y cc2 nL2 fr2 lo2 [.ref k0, a1, a2, a3, a4] σ post) (hR : fr2 + 1 ≤ fr ∧ 8 + (nL2 + 11) + lo2 ≤ lo) (hW : (st.map fun v => v.category).sum ≤ 8) (kk : ∀ (r : Int64) (τ : Mem), post r τ → Go obj N X (pc + 3) lv (.long r :: st) τ) : Go obj N X pc lv (a4 :: a3 :: a2 :: a1 :: .ref k0 :: st) σ := go_cVL C K L d hk ho hcl hcn hc rfl hR hW rfl kk
theorem go_S5L (C : OkX obj N cc nL own fr lo X) {post : Int64 → Mem → Prop} {a1 a2 a3 a4 a5 : Value} (K : CodeOk y cc2 nL2 (some .long) 5) (L : LkS own idx y) (d : decode cc pc = .ok (.invokestatic idx, 3)) (hc : CtL obj N y cc2 nL2 fr2 lo2 [a1, a2, a3, a4, a5] σ post) (hR : fr2 + 1 ≤ fr ∧ 8 + (nL2 + 11) + lo2 ≤ lo) (hW : (st.map fun v => v.category).sum ≤ 8) (kk : ∀ (r : Int64) (τ : Mem), post r τ → Go obj N X (pc + 3) lv (.long r :: st) τ) : Go obj N X pc lv (a5 :: a4 :: a3 :: a2 :: a1 :: st) σ := go_cSL C K L d hc rfl hR hW rfl kk
theorem go_V5L (C : OkX obj N cc nL own fr lo X) {post : Int64 → Mem → Prop} {a1 a2 a3 a4 a5 : Value} {k0 ci : Nat} {fl : List (Option Nat)} {C0 : vw_C} (K : CodeOk y cc2 nL2 (some .long) 5) (L : LkV own idx y) (d : decode cc pc = .ok (.invokevirtual idx, 3)) (hk : k0 < N) (ho : obj k0 = .inl (ci, fl)) (hcl : vwCl[ci]? = some C0) (hcn : C0.1 = y.cls) (hc : CtL obj N y cc2 nL2 fr2 lo2 [.ref k0, a1, a2, a3, a4, a5] σ post) (hR : fr2 + 1 ≤ fr ∧ 8 + (nL2 + 11) + lo2 ≤ lo) (hW : (st.map fun v => v.category).sum ≤ 8) (kk : ∀ (r : Int64) (τ : Mem), post r τ → Go obj N X (pc + 3) lv (.long r :: st) τ) : Go obj N X pc lv (a5 :: a4 :: a3 :: a2 :: a1 :: .ref k0 :: st) σ := go_cVL C K L d hk ho hcl hcn hc rfl hR hW rfl kk
theorem go_S6L (C : OkX obj N cc nL own fr lo X) {post : Int64 → Mem → Prop} {a1 a2 a3 a4 a5 a6 : Value} (K : CodeOk y cc2 nL2 (some .long) 6) (L : LkS own idx y) (d : decode cc pc = .ok (.invokestatic idx, 3)) (hc : CtL obj N y cc2 nL2 fr2 lo2 [a1, a2, a3, a4, a5, a6] σ post) (hR : fr2 + 1 ≤ fr ∧ 8 + (nL2 + 11) + lo2 ≤ lo) (hW : (st.map fun v => v.category).sum ≤ 8) (kk : ∀ (r : Int64) (τ : Mem), post r τ → Go obj N X (pc + 3) lv (.long r :: st) τ) : Go obj N X pc lv (a6 :: a5 :: a4 :: a3 :: a2 :: a1 :: st) σ := go_cSL C K L d hc rfl hR hW rfl kk
theorem go_V6L (C : OkX obj N cc nL own fr lo X) {post : Int64 → Mem → Prop} {a1 a2 a3 a4 a5 a6 : Value} {k0 ci : Nat} {fl : List (Option Nat)} {C0 : vw_C} (K : CodeOk y cc2 nL2 (some .long) 6) (L : LkV own idx y) (d : decode cc pc = .ok (.invokevirtual idx, 3)) (hk : k0 < N) (ho : obj k0 = .inl (ci, fl)) (hcl : vwCl[ci]? = some C0) (hcn : C0.1 = y.cls) (hc : CtL obj N y cc2 nL2 fr2 lo2 [.ref k0, a1, a2, a3, a4, a5, a6] σ post) (hR : fr2 + 1 ≤ fr ∧ 8 + (nL2 + 11) + lo2 ≤ lo) (hW : (st.map fun v => v.category).sum ≤ 8) (kk : ∀ (r : Int64) (τ : Mem), post r τ → Go obj N X (pc + 3) lv (.long r :: st) τ) : Go obj N X pc lv (a6 :: a5 :: a4 :: a3 :: a2 :: a1 :: .ref k0 :: st) σ := go_cVL C K L d hk ho hcl hcn hc rfl hR hW rfl kk
theorem go_S7L (C : OkX obj N cc nL own fr lo X) {post : Int64 → Mem → Prop} {a1 a2 a3 a4 a5 a6 a7 : Value} (K : CodeOk y cc2 nL2 (some .long) 7) (L : LkS own idx y) (d : decode cc pc = .ok (.invokestatic idx, 3)) (hc : CtL obj N y cc2 nL2 fr2 lo2 [a1, a2, a3, a4, a5, a6, a7] σ post) (hR : fr2 + 1 ≤ fr ∧ 8 + (nL2 + 11) + lo2 ≤ lo) (hW : (st.map fun v => v.category).sum ≤ 8) (kk : ∀ (r : Int64) (τ : Mem), post r τ → Go obj N X (pc + 3) lv (.long r :: st) τ) : Go obj N X pc lv (a7 :: a6 :: a5 :: a4 :: a3 :: a2 :: a1 :: st) σ := go_cSL C K L d hc rfl hR hW rfl kk
theorem go_V7L (C : OkX obj N cc nL own fr lo X) {post : Int64 → Mem → Prop} {a1 a2 a3 a4 a5 a6 a7 : Value} {k0 ci : Nat} {fl : List (Option Nat)} {C0 : vw_C} (K : CodeOk y cc2 nL2 (some .long) 7) (L : LkV own idx y) (d : decode cc pc = .ok (.invokevirtual idx, 3)) (hk : k0 < N) (ho : obj k0 = .inl (ci, fl)) (hcl : vwCl[ci]? = some C0) (hcn : C0.1 = y.cls) (hc : CtL obj N y cc2 nL2 fr2 lo2 [.ref k0, a1, a2, a3, a4, a5, a6, a7] σ post) (hR : fr2 + 1 ≤ fr ∧ 8 + (nL2 + 11) + lo2 ≤ lo) (hW : (st.map fun v => v.category).sum ≤ 8) (kk : ∀ (r : Int64) (τ : Mem), post r τ → Go obj N X (pc + 3) lv (.long r :: st) τ) : Go obj N X pc lv (a7 :: a6 :: a5 :: a4 :: a3 :: a2 :: a1 :: .ref k0 :: st) σ := go_cVL C K L d hk ho hcl hcn hc rfl hR hW rfl kk
end GOC
end
section
/-! The layouts of the two systems, and what their instructions link: by program. -/
def layC : List Lay := [.inl (5, [some 1, some 5, some 10, some 14, some 15, some 16, none, some 17, some 20, some 46, none, some 50, none]), .inl (4, [some 2, some 3, some 4]), .inr (.inl (0, 1152)), .inr (.inl (0, 32)), .inr (.inl (0, 32)), .inr (.inr (3, [6, 7, 8, 9])), .inr (.inl (0, 1152)), .inr (.inl (0, 1152)), .inr (.inl (0, 1152)), .inr (.inl (0, 1152)), .inl (3, [some 11, some 12, some 13, none]), .inr (.inl (0, 16)), .inr (.inl (0, 2304)), .inr (.inl (0, 2304)), .inr (.inl (0, 1152)), .inr (.inl (0, 1152)), .inr (.inl (1, 1152)), .inl (0, [some 18, some 19, none, none]), .inr (.inl (0, 40)), .inr (.inl (0, 40)), .inl (2, [some 21, none, none]), .inr (.inr (4, [22, 26, 30, 34, 38, 42])), .inl (4, [some 23, some 24, some 25]), .inr (.inl (0, 1152)), .inr (.inl (0, 32)), .inr (.inl (0, 32)), .inl (4, [some 27, some 28, some 29]), .inr (.inl (0, 1152)), .inr (.inl (0, 32)), .inr (.inl (0, 32)), .inl (4, [some 31, some 32, some 33]), .inr (.inl (0, 1152)), .inr (.inl (0, 32)), .inr (.inl (0, 32)), .inl (4, [some 35, some 36, some 37]), .inr (.inl (0, 1152)), .inr (.inl (0, 32)), .inr (.inl (0, 32)), .inl (4, [some 39, some 40, some 41]), .inr (.inl (0, 1152)), .inr (.inl (0, 32)), .inr (.inl (0, 32)), .inl (4, [some 43, some 44, some 45]), .inr (.inl (0, 1152)), .inr (.inl (0, 32)), .inr (.inl (0, 32)), .inl (4, [some 47, some 48, some 49]), .inr (.inl (0, 1152)), .inr (.inl (0, 32)), .inr (.inl (0, 32)), .inl (1, [some 51, none, none, some 52, some 53, some 54, none]), .inr (.inl (2, 60)), .inr (.inl (2, 10)), .inr (.inl (0, 10)), .inr (.inr (3, [55, 56, 57, 58, 59, 60, 61, 62, 63, 64])), .inr (.inl (0, 7)), .inr (.inl (0, 7)), .inr (.inl (0, 7)), .inr (.inl (0, 7)), .inr (.inl (0, 7)), .inr (.inl (0, 7)), .inr (.inl (0, 7)), .inr (.inl (0, 7)), .inr (.inl (0, 7)), .inr (.inl (0, 7))]
def objC (k : Nat) : Lay := layC.getD k (.inr (.inl (0, 0)))
abbrev NC : Nat := 65
def layM : List Lay := [.inl (6, [some 1, some 2, none, some 3, none, some 4, some 5, some 6, none, none, none, none, none, some 7, some 8, none, some 9, none, none, none, none, none, some 10, none, some 11, some 12]), .inr (.inl (0, 1216)), .inr (.inl (0, 1216)), .inr (.inl (0, 7296)), .inr (.inl (0, 4608)), .inr (.inl (1, 1152)), .inr (.inl (0, 1152)), .inr (.inl (0, 40)), .inr (.inl (0, 40)), .inr (.inl (0, 60)), .inr (.inl (0, 540)), .inr (.inl (1, 1152)), .inr (.inl (0, 1152))]
def objM (k : Nat) : Lay := layM.getD k (.inr (.inl (0, 0)))
abbrev NM : Nat := 13
theorem mgw {w : Cond} (i : Nat) (h : lw_tbl[i]? = some w) (g : goodWord w = true) : w ∈ gw := List.mem_filter.mpr ⟨List.mem_of_getElem? h, g⟩
theorem mnw {a : String} {i : Nat} {y : MethodName} {h : String} (k : Nat) (e : lw_tbl[k]? = some (.methodLinkNest a i y h)) : Cond.methodLinkNest a i y h ∈ nestW := List.mem_filter.mpr ⟨List.mem_of_getElem? e, rfl⟩
theorem inX0 : ∀ w ∈ u_ws RX0 TX0 4, w ∈ gw := fun w h => List.mem_filter.mpr ⟨(show ∀ w ∈ u_ws RX0 TX0 4, w ∈ lw_tbl by decide +kernel) w h, List.all_eq_true.mp (show (u_ws RX0 TX0 4).all goodWord = true by decide +kernel) w h⟩
theorem inX1 : ∀ w ∈ u_ws RX1 TX1 7, w ∈ gw := fun w h => List.mem_filter.mpr ⟨(show ∀ w ∈ u_ws RX1 TX1 7, w ∈ lw_tbl by decide +kernel) w h, List.all_eq_true.mp (show (u_ws RX1 TX1 7).all goodWord = true by decide +kernel) w h⟩
theorem inX3 : ∀ w ∈ u_ws RX3 TX3 3, w ∈ gw := fun w h => List.mem_filter.mpr ⟨(show ∀ w ∈ u_ws RX3 TX3 3, w ∈ lw_tbl by decide +kernel) w h, List.all_eq_true.mp (show (u_ws RX3 TX3 3).all goodWord = true by decide +kernel) w h⟩
theorem inX4 : ∀ w ∈ u_ws RX4 TX4 4, w ∈ gw := fun w h => List.mem_filter.mpr ⟨(show ∀ w ∈ u_ws RX4 TX4 4, w ∈ lw_tbl by decide +kernel) w h, List.all_eq_true.mp (show (u_ws RX4 TX4 4).all goodWord = true by decide +kernel) w h⟩
theorem inX5 : ∀ w ∈ u_ws RX5 TX5 3, w ∈ gw := fun w h => List.mem_filter.mpr ⟨(show ∀ w ∈ u_ws RX5 TX5 3, w ∈ lw_tbl by decide +kernel) w h, List.all_eq_true.mp (show (u_ws RX5 TX5 3).all goodWord = true by decide +kernel) w h⟩
theorem inX6 : ∀ w ∈ u_ws RX6 TX6 13, w ∈ gw := fun w h => List.mem_filter.mpr ⟨(show ∀ w ∈ u_ws RX6 TX6 13, w ∈ lw_tbl by decide +kernel) w h, List.all_eq_true.mp (show (u_ws RX6 TX6 13).all goodWord = true by decide +kernel) w h⟩
theorem inX7 : ∀ w ∈ u_ws RX7 TX7 26, w ∈ gw := fun w h => List.mem_filter.mpr ⟨(show ∀ w ∈ u_ws RX7 TX7 26, w ∈ lw_tbl by decide +kernel) w h, List.all_eq_true.mp (show (u_ws RX7 TX7 26).all goodWord = true by decide +kernel) w h⟩
theorem gf_X0_9 : GF RX0 9 0 0 RX0 TX0 4 tyX0 := ⟨rfl, inX0, by decide, mgw 111 (by decide +kernel) (by decide +kernel), tyX0_ok, nmX0⟩
theorem gf_X0_15 : GF RX0 15 0 1 RX0 TX0 4 tyX0 := ⟨rfl, inX0, by decide, mgw 112 (by decide +kernel) (by decide +kernel), tyX0_ok, nmX0⟩
theorem gf_X0_18 : GF RX0 18 0 2 RX0 TX0 4 tyX0 := ⟨rfl, inX0, by decide, mgw 113 (by decide +kernel) (by decide +kernel), tyX0_ok, nmX0⟩
theorem gf_X0_22 : GF RX0 22 0 3 RX0 TX0 4 tyX0 := ⟨rfl, inX0, by decide, mgw 115 (by decide +kernel) (by decide +kernel), tyX0_ok, nmX0⟩
theorem gf_X0_26 : GF RX0 26 4 0 RX5 TX5 3 tyX5 := ⟨rfl, inX5, by decide, mgw 68 (by decide +kernel) (by decide +kernel), tyX5_ok, nmX5⟩
theorem gf_X1_11 : GF RX1 11 1 0 RX1 TX1 7 tyX1 := ⟨rfl, inX1, by decide, mgw 154 (by decide +kernel) (by decide +kernel), tyX1_ok, nmX1⟩
theorem gf_X1_15 : GF RX1 15 1 1 RX1 TX1 7 tyX1 := ⟨rfl, inX1, by decide, mgw 155 (by decide +kernel) (by decide +kernel), tyX1_ok, nmX1⟩
theorem gf_X1_19 : GF RX1 19 1 2 RX1 TX1 7 tyX1 := ⟨rfl, inX1, by decide, mgw 157 (by decide +kernel) (by decide +kernel), tyX1_ok, nmX1⟩
theorem gf_X1_22 : GF RX1 22 1 3 RX1 TX1 7 tyX1 := ⟨rfl, inX1, by decide, mgw 158 (by decide +kernel) (by decide +kernel), tyX1_ok, nmX1⟩
theorem gf_X1_25 : GF RX1 25 1 4 RX1 TX1 7 tyX1 := ⟨rfl, inX1, by decide, mgw 159 (by decide +kernel) (by decide +kernel), tyX1_ok, nmX1⟩
theorem gf_X1_31 : GF RX1 31 1 5 RX1 TX1 7 tyX1 := ⟨rfl, inX1, by decide, mgw 160 (by decide +kernel) (by decide +kernel), tyX1_ok, nmX1⟩
theorem gf_X1_34 : GF RX1 34 1 6 RX1 TX1 7 tyX1 := ⟨rfl, inX1, by decide, mgw 161 (by decide +kernel) (by decide +kernel), tyX1_ok, nmX1⟩
theorem gf_X1_87 : GF RX1 87 4 0 RX5 TX5 3 tyX5 := ⟨rfl, inX5, by decide, mgw 69 (by decide +kernel) (by decide +kernel), tyX5_ok, nmX5⟩
theorem gf_X1_100 : GF RX1 100 4 1 RX5 TX5 3 tyX5 := ⟨rfl, inX5, by decide, mgw 72 (by decide +kernel) (by decide +kernel), tyX5_ok, nmX5⟩
theorem gf_X1_103 : GF RX1 103 4 2 RX5 TX5 3 tyX5 := ⟨rfl, inX5, by decide, mgw 75 (by decide +kernel) (by decide +kernel), tyX5_ok, nmX5⟩
theorem gf_X3_11 : GF RX3 11 2 0 RX3 TX3 3 tyX3 := ⟨rfl, inX3, by decide, mgw 136 (by decide +kernel) (by decide +kernel), tyX3_ok, nmX3⟩
theorem gf_X3_17 : GF RX3 17 2 1 RX3 TX3 3 tyX3 := ⟨rfl, inX3, by decide, mgw 137 (by decide +kernel) (by decide +kernel), tyX3_ok, nmX3⟩
theorem gf_X3_21 : GF RX3 21 2 2 RX3 TX3 3 tyX3 := ⟨rfl, inX3, by decide, mgw 138 (by decide +kernel) (by decide +kernel), tyX3_ok, nmX3⟩
theorem gf_X4_9 : GF RX4 9 3 0 RX4 TX4 4 tyX4 := ⟨rfl, inX4, by decide, mgw 92 (by decide +kernel) (by decide +kernel), tyX4_ok, nmX4⟩
theorem gf_X4_15 : GF RX4 15 3 1 RX4 TX4 4 tyX4 := ⟨rfl, inX4, by decide, mgw 93 (by decide +kernel) (by decide +kernel), tyX4_ok, nmX4⟩
theorem gf_X4_18 : GF RX4 18 3 2 RX4 TX4 4 tyX4 := ⟨rfl, inX4, by decide, mgw 94 (by decide +kernel) (by decide +kernel), tyX4_ok, nmX4⟩
theorem gf_X4_21 : GF RX4 21 3 3 RX4 TX4 4 tyX4 := ⟨rfl, inX4, by decide, mgw 95 (by decide +kernel) (by decide +kernel), tyX4_ok, nmX4⟩
theorem gf_X5_9 : GF RX5 9 4 0 RX5 TX5 3 tyX5 := ⟨rfl, inX5, by decide, mgw 66 (by decide +kernel) (by decide +kernel), tyX5_ok, nmX5⟩
theorem gf_X5_15 : GF RX5 15 4 1 RX5 TX5 3 tyX5 := ⟨rfl, inX5, by decide, mgw 70 (by decide +kernel) (by decide +kernel), tyX5_ok, nmX5⟩
theorem gf_X5_18 : GF RX5 18 4 2 RX5 TX5 3 tyX5 := ⟨rfl, inX5, by decide, mgw 73 (by decide +kernel) (by decide +kernel), tyX5_ok, nmX5⟩
theorem gf_X6_12 : GF RX6 12 5 0 RX6 TX6 13 tyX6 := ⟨rfl, inX6, by decide, mgw 179 (by decide +kernel) (by decide +kernel), tyX6_ok, nmX6⟩
theorem gf_X6_18 : GF RX6 18 5 1 RX6 TX6 13 tyX6 := ⟨rfl, inX6, by decide, mgw 180 (by decide +kernel) (by decide +kernel), tyX6_ok, nmX6⟩
theorem gf_X6_24 : GF RX6 24 5 2 RX6 TX6 13 tyX6 := ⟨rfl, inX6, by decide, mgw 181 (by decide +kernel) (by decide +kernel), tyX6_ok, nmX6⟩
theorem gf_X6_28 : GF RX6 28 5 3 RX6 TX6 13 tyX6 := ⟨rfl, inX6, by decide, mgw 182 (by decide +kernel) (by decide +kernel), tyX6_ok, nmX6⟩
theorem gf_X6_32 : GF RX6 32 5 4 RX6 TX6 13 tyX6 := ⟨rfl, inX6, by decide, mgw 183 (by decide +kernel) (by decide +kernel), tyX6_ok, nmX6⟩
theorem gf_X6_35 : GF RX6 35 5 5 RX6 TX6 13 tyX6 := ⟨rfl, inX6, by decide, mgw 184 (by decide +kernel) (by decide +kernel), tyX6_ok, nmX6⟩
theorem gf_X6_39 : GF RX6 39 5 6 RX6 TX6 13 tyX6 := ⟨rfl, inX6, by decide, mgw 185 (by decide +kernel) (by decide +kernel), tyX6_ok, nmX6⟩
theorem gf_X6_46 : GF RX6 46 5 7 RX6 TX6 13 tyX6 := ⟨rfl, inX6, by decide, mgw 186 (by decide +kernel) (by decide +kernel), tyX6_ok, nmX6⟩
theorem gf_X6_53 : GF RX6 53 5 8 RX6 TX6 13 tyX6 := ⟨rfl, inX6, by decide, mgw 187 (by decide +kernel) (by decide +kernel), tyX6_ok, nmX6⟩
theorem gf_X6_57 : GF RX6 57 5 9 RX6 TX6 13 tyX6 := ⟨rfl, inX6, by decide, mgw 188 (by decide +kernel) (by decide +kernel), tyX6_ok, nmX6⟩
theorem gf_X6_60 : GF RX6 60 5 10 RX6 TX6 13 tyX6 := ⟨rfl, inX6, by decide, mgw 189 (by decide +kernel) (by decide +kernel), tyX6_ok, nmX6⟩
theorem gf_X6_67 : GF RX6 67 5 11 RX6 TX6 13 tyX6 := ⟨rfl, inX6, by decide, mgw 190 (by decide +kernel) (by decide +kernel), tyX6_ok, nmX6⟩
theorem gf_X6_71 : GF RX6 71 5 12 RX6 TX6 13 tyX6 := ⟨rfl, inX6, by decide, mgw 191 (by decide +kernel) (by decide +kernel), tyX6_ok, nmX6⟩
theorem gf_X6_88 : GF RX6 88 0 3 RX0 TX0 4 tyX0 := ⟨rfl, inX0, by decide, mgw 116 (by decide +kernel) (by decide +kernel), tyX0_ok, nmX0⟩
theorem gf_X6_99 : GF RX6 99 4 0 RX5 TX5 3 tyX5 := ⟨rfl, inX5, by decide, mgw 67 (by decide +kernel) (by decide +kernel), tyX5_ok, nmX5⟩
theorem gf_X6_112 : GF RX6 112 0 2 RX0 TX0 4 tyX0 := ⟨rfl, inX0, by decide, mgw 114 (by decide +kernel) (by decide +kernel), tyX0_ok, nmX0⟩
theorem gf_X6_125 : GF RX6 125 4 1 RX5 TX5 3 tyX5 := ⟨rfl, inX5, by decide, mgw 71 (by decide +kernel) (by decide +kernel), tyX5_ok, nmX5⟩
theorem gf_X6_131 : GF RX6 131 4 2 RX5 TX5 3 tyX5 := ⟨rfl, inX5, by decide, mgw 74 (by decide +kernel) (by decide +kernel), tyX5_ok, nmX5⟩
theorem gf_X6_144 : GF RX6 144 1 1 RX1 TX1 7 tyX1 := ⟨rfl, inX1, by decide, mgw 156 (by decide +kernel) (by decide +kernel), tyX1_ok, nmX1⟩
theorem gf_X6_150 : GF RX6 150 1 6 RX1 TX1 7 tyX1 := ⟨rfl, inX1, by decide, mgw 162 (by decide +kernel) (by decide +kernel), tyX1_ok, nmX1⟩
theorem gf_X6_153 : GF RX6 153 2 2 RX3 TX3 3 tyX3 := ⟨rfl, inX3, by decide, mgw 139 (by decide +kernel) (by decide +kernel), tyX3_ok, nmX3⟩
theorem gf_X7_9 : GF RX7 9 6 0 RX7 TX7 26 tyX7 := ⟨rfl, inX7, by decide, mgw 624 (by decide +kernel) (by decide +kernel), tyX7_ok, nmX7⟩
theorem gf_X7_13 : GF RX7 13 6 1 RX7 TX7 26 tyX7 := ⟨rfl, inX7, by decide, mgw 625 (by decide +kernel) (by decide +kernel), tyX7_ok, nmX7⟩
theorem gf_X7_16 : GF RX7 16 6 3 RX7 TX7 26 tyX7 := ⟨rfl, inX7, by decide, mgw 627 (by decide +kernel) (by decide +kernel), tyX7_ok, nmX7⟩
theorem gf_X7_19 : GF RX7 19 6 5 RX7 TX7 26 tyX7 := ⟨rfl, inX7, by decide, mgw 629 (by decide +kernel) (by decide +kernel), tyX7_ok, nmX7⟩
theorem gf_X7_22 : GF RX7 22 6 6 RX7 TX7 26 tyX7 := ⟨rfl, inX7, by decide, mgw 630 (by decide +kernel) (by decide +kernel), tyX7_ok, nmX7⟩
theorem gf_X7_26 : GF RX7 26 6 7 RX7 TX7 26 tyX7 := ⟨rfl, inX7, by decide, mgw 631 (by decide +kernel) (by decide +kernel), tyX7_ok, nmX7⟩
theorem gf_X7_29 : GF RX7 29 6 8 RX7 TX7 26 tyX7 := ⟨rfl, inX7, by decide, mgw 632 (by decide +kernel) (by decide +kernel), tyX7_ok, nmX7⟩
theorem gf_X7_33 : GF RX7 33 6 13 RX7 TX7 26 tyX7 := ⟨rfl, inX7, by decide, mgw 637 (by decide +kernel) (by decide +kernel), tyX7_ok, nmX7⟩
theorem gf_X7_36 : GF RX7 36 6 14 RX7 TX7 26 tyX7 := ⟨rfl, inX7, by decide, mgw 638 (by decide +kernel) (by decide +kernel), tyX7_ok, nmX7⟩
theorem gf_X7_39 : GF RX7 39 6 16 RX7 TX7 26 tyX7 := ⟨rfl, inX7, by decide, mgw 640 (by decide +kernel) (by decide +kernel), tyX7_ok, nmX7⟩
theorem gf_X7_42 : GF RX7 42 6 17 RX7 TX7 26 tyX7 := ⟨rfl, inX7, by decide, mgw 641 (by decide +kernel) (by decide +kernel), tyX7_ok, nmX7⟩
theorem gf_X7_45 : GF RX7 45 6 22 RX7 TX7 26 tyX7 := ⟨rfl, inX7, by decide, mgw 646 (by decide +kernel) (by decide +kernel), tyX7_ok, nmX7⟩
theorem gf_X7_48 : GF RX7 48 6 24 RX7 TX7 26 tyX7 := ⟨rfl, inX7, by decide, mgw 648 (by decide +kernel) (by decide +kernel), tyX7_ok, nmX7⟩
theorem gf_X7_51 : GF RX7 51 6 25 RX7 TX7 26 tyX7 := ⟨rfl, inX7, by decide, mgw 649 (by decide +kernel) (by decide +kernel), tyX7_ok, nmX7⟩
theorem gf_X7_78 : GF RX7 78 6 9 RX7 TX7 26 tyX7 := ⟨rfl, inX7, by decide, mgw 633 (by decide +kernel) (by decide +kernel), tyX7_ok, nmX7⟩
theorem gf_X7_84 : GF RX7 84 6 10 RX7 TX7 26 tyX7 := ⟨rfl, inX7, by decide, mgw 634 (by decide +kernel) (by decide +kernel), tyX7_ok, nmX7⟩
theorem gf_X7_113 : GF RX7 113 6 4 RX7 TX7 26 tyX7 := ⟨rfl, inX7, by decide, mgw 628 (by decide +kernel) (by decide +kernel), tyX7_ok, nmX7⟩
theorem gf_X7_120 : GF RX7 120 6 12 RX7 TX7 26 tyX7 := ⟨rfl, inX7, by decide, mgw 636 (by decide +kernel) (by decide +kernel), tyX7_ok, nmX7⟩
theorem gf_X7_127 : GF RX7 127 6 11 RX7 TX7 26 tyX7 := ⟨rfl, inX7, by decide, mgw 635 (by decide +kernel) (by decide +kernel), tyX7_ok, nmX7⟩
theorem gf_X7_144 : GF RX7 144 6 15 RX7 TX7 26 tyX7 := ⟨rfl, inX7, by decide, mgw 639 (by decide +kernel) (by decide +kernel), tyX7_ok, nmX7⟩
theorem gf_X7_147 : GF RX7 147 6 19 RX7 TX7 26 tyX7 := ⟨rfl, inX7, by decide, mgw 643 (by decide +kernel) (by decide +kernel), tyX7_ok, nmX7⟩
theorem gf_X7_150 : GF RX7 150 6 18 RX7 TX7 26 tyX7 := ⟨rfl, inX7, by decide, mgw 642 (by decide +kernel) (by decide +kernel), tyX7_ok, nmX7⟩
theorem gf_X7_153 : GF RX7 153 6 20 RX7 TX7 26 tyX7 := ⟨rfl, inX7, by decide, mgw 644 (by decide +kernel) (by decide +kernel), tyX7_ok, nmX7⟩
theorem gf_X7_159 : GF RX7 159 6 21 RX7 TX7 26 tyX7 := ⟨rfl, inX7, by decide, mgw 645 (by decide +kernel) (by decide +kernel), tyX7_ok, nmX7⟩
theorem gf_X7_186 : GF RX7 186 6 23 RX7 TX7 26 tyX7 := ⟨rfl, inX7, by decide, mgw 647 (by decide +kernel) (by decide +kernel), tyX7_ok, nmX7⟩
theorem gf_X7_211 : GF RX7 211 6 2 RX7 TX7 26 tyX7 := ⟨rfl, inX7, by decide, mgw 626 (by decide +kernel) (by decide +kernel), tyX7_ok, nmX7⟩
theorem ok_X0_collect : CodeOk yX0_collect cX0_collect 4 (some .int) 2 := ⟨mgw 235 (by decide +kernel) (by decide +kernel), by decide +kernel, by decide +kernel⟩
theorem ok_X0_leave : CodeOk yX0_leave cX0_leave 1 none 0 := ⟨mgw 318 (by decide +kernel) (by decide +kernel), by decide +kernel, by decide +kernel⟩
theorem ok_X0_makeEdits : CodeOk yX0_makeEdits cX0_makeEdits 3 none 1 := ⟨mgw 314 (by decide +kernel) (by decide +kernel), by decide +kernel, by decide +kernel⟩
theorem ok_X1_add : CodeOk yX1_add cX1_add 5 (some .int) 1 := ⟨mgw 357 (by decide +kernel) (by decide +kernel), by decide +kernel, by decide +kernel⟩
theorem ok_X1_countOfNumbers : CodeOk yX1_countOfNumbers cX1_countOfNumbers 1 (some .int) 1 := ⟨mgw 372 (by decide +kernel) (by decide +kernel), by decide +kernel, by decide +kernel⟩
theorem ok_X1_execute : CodeOk yX1_execute cX1_execute 3 none 1 := ⟨mgw 403 (by decide +kernel) (by decide +kernel), by decide +kernel, by decide +kernel⟩
theorem ok_X1_firstRefused : CodeOk yX1_firstRefused cX1_firstRefused 2 (some .int) 0 := ⟨mgw 391 (by decide +kernel) (by decide +kernel), by decide +kernel, by decide +kernel⟩
theorem ok_X1_isDigitNext : CodeOk yX1_isDigitNext cX1_isDigitNext 1 (some .boolean) 0 := ⟨mgw 387 (by decide +kernel) (by decide +kernel), by decide +kernel, by decide +kernel⟩
theorem ok_X1_isRefused : CodeOk yX1_isRefused cX1_isRefused 2 (some .boolean) 2 := ⟨mgw 394 (by decide +kernel) (by decide +kernel), by decide +kernel, by decide +kernel⟩
theorem ok_X1_lastSeparator : CodeOk yX1_lastSeparator cX1_lastSeparator 1 (some .char) 1 := ⟨mgw 375 (by decide +kernel) (by decide +kernel), by decide +kernel, by decide +kernel⟩
theorem ok_X1_make : CodeOk yX1_make cX1_make 3 none 3 := ⟨mgw 406 (by decide +kernel) (by decide +kernel), by decide +kernel, by decide +kernel⟩
theorem ok_X1_parse : CodeOk yX1_parse cX1_parse 2 (some .int) 0 := ⟨mgw 365 (by decide +kernel) (by decide +kernel), by decide +kernel, by decide +kernel⟩
theorem ok_X1_parseCommand : CodeOk yX1_parseCommand cX1_parseCommand 5 (some .boolean) 1 := ⟨mgw 369 (by decide +kernel) (by decide +kernel), by decide +kernel, by decide +kernel⟩
theorem ok_X1_parseNumber : CodeOk yX1_parseNumber cX1_parseNumber 4 (some .boolean) 2 := ⟨mgw 383 (by decide +kernel) (by decide +kernel), by decide +kernel, by decide +kernel⟩
theorem ok_X1_skip : CodeOk yX1_skip cX1_skip 2 (some .boolean) 1 := ⟨mgw 379 (by decide +kernel) (by decide +kernel), by decide +kernel, by decide +kernel⟩
theorem ok_X2_cell : CodeOk yX2_cell cX2_cell 3 (some .int) 3 := ⟨mgw 231 (by decide +kernel) (by decide +kernel), by decide +kernel, by decide +kernel⟩
theorem ok_X2_chunk : CodeOk yX2_chunk cX2_chunk 1 (some .int) 1 := ⟨mgw 485 (by decide +kernel) (by decide +kernel), by decide +kernel, by decide +kernel⟩
theorem ok_X2_has : CodeOk yX2_has cX2_has 3 (some .boolean) 3 := ⟨mgw 225 (by decide +kernel) (by decide +kernel), by decide +kernel, by decide +kernel⟩
theorem ok_X2_neighbor : CodeOk yX2_neighbor cX2_neighbor 2 (some .int) 2 := ⟨mgw 289 (by decide +kernel) (by decide +kernel), by decide +kernel, by decide +kernel⟩
theorem ok_X2_number : CodeOk yX2_number cX2_number 1 (some .int) 1 := ⟨mgw 470 (by decide +kernel) (by decide +kernel), by decide +kernel, by decide +kernel⟩
theorem ok_X2_x : CodeOk yX2_x cX2_x 1 (some .int) 1 := ⟨mgw 292 (by decide +kernel) (by decide +kernel), by decide +kernel, by decide +kernel⟩
theorem ok_X2_y : CodeOk yX2_y cX2_y 1 (some .int) 1 := ⟨mgw 295 (by decide +kernel) (by decide +kernel), by decide +kernel, by decide +kernel⟩
theorem ok_X2_z : CodeOk yX2_z cX2_z 1 (some .int) 1 := ⟨mgw 298 (by decide +kernel) (by decide +kernel), by decide +kernel, by decide +kernel⟩
theorem ok_X3_pop : CodeOk yX3_pop cX3_pop 2 none 1 := ⟨mgw 420 (by decide +kernel) (by decide +kernel), by decide +kernel, by decide +kernel⟩
theorem ok_X3_push : CodeOk yX3_push cX3_push 2 none 1 := ⟨mgw 239 (by decide +kernel) (by decide +kernel), by decide +kernel, by decide +kernel⟩
theorem ok_X4_enter : CodeOk yX4_enter cX4_enter 4 none 3 := ⟨mgw 274 (by decide +kernel) (by decide +kernel), by decide +kernel, by decide +kernel⟩
theorem ok_X4_enterEmissions : CodeOk yX4_enterEmissions cX4_enterEmissions 6 none 4 := ⟨mgw 278 (by decide +kernel) (by decide +kernel), by decide +kernel, by decide +kernel⟩
theorem ok_X4_enterSun : CodeOk yX4_enterSun cX4_enterSun 8 none 2 := ⟨mgw 265 (by decide +kernel) (by decide +kernel), by decide +kernel, by decide +kernel⟩
theorem ok_X4_find : CodeOk yX4_find cX4_find 8 none 4 := ⟨mgw 261 (by decide +kernel) (by decide +kernel), by decide +kernel, by decide +kernel⟩
theorem ok_X4_give : CodeOk yX4_give cX4_give 9 none 4 := ⟨mgw 286 (by decide +kernel) (by decide +kernel), by decide +kernel, by decide +kernel⟩
theorem ok_X5_copyFrom : CodeOk yX5_copyFrom cX5_copyFrom 2 none 1 := ⟨mgw 243 (by decide +kernel) (by decide +kernel), by decide +kernel, by decide +kernel⟩
theorem ok_X5_countFilled : CodeOk yX5_countFilled cX5_countFilled 3 (some .int) 0 := ⟨mgw 563 (by decide +kernel) (by decide +kernel), by decide +kernel, by decide +kernel⟩
theorem ok_X5_emissionAt : CodeOk yX5_emissionAt cX5_emissionAt 3 (some .int) 2 := ⟨mgw 282 (by decide +kernel) (by decide +kernel), by decide +kernel, by decide +kernel⟩
theorem ok_X5_lossAt : CodeOk yX5_lossAt cX5_lossAt 3 (some .int) 2 := ⟨mgw 270 (by decide +kernel) (by decide +kernel), by decide +kernel, by decide +kernel⟩
theorem ok_X5_setBox : CodeOk yX5_setBox cX5_setBox 5 none 3 := ⟨mgw 330 (by decide +kernel) (by decide +kernel), by decide +kernel, by decide +kernel⟩
theorem ok_X6_append : CodeOk yX6_append cX6_append 2 (some .int) 1 := ⟨mgw 353 (by decide +kernel) (by decide +kernel), by decide +kernel, by decide +kernel⟩
theorem ok_X6_batchSize : CodeOk yX6_batchSize cX6_batchSize 1 (some .int) 0 := ⟨mgw 474 (by decide +kernel) (by decide +kernel), by decide +kernel, by decide +kernel⟩
theorem ok_X6_brightest : CodeOk yX6_brightest cX6_brightest 4 (some .int) 1 := ⟨mgw 531 (by decide +kernel) (by decide +kernel), by decide +kernel, by decide +kernel⟩
theorem ok_X6_brightestColor : CodeOk yX6_brightestColor cX6_brightestColor 2 (some .int) 1 := ⟨mgw 516 (by decide +kernel) (by decide +kernel), by decide +kernel, by decide +kernel⟩
theorem ok_X6_checksum : CodeOk yX6_checksum cX6_checksum 4 (some .long) 0 := ⟨mgw 551 (by decide +kernel) (by decide +kernel), by decide +kernel, by decide +kernel⟩
theorem ok_X6_chunkSum : CodeOk yX6_chunkSum cX6_chunkSum 5 (some .int) 2 := ⟨mgw 501 (by decide +kernel) (by decide +kernel), by decide +kernel, by decide +kernel⟩
theorem ok_X6_clearEffect : CodeOk yX6_clearEffect cX6_clearEffect 2 none 0 := ⟨mgw 257 (by decide +kernel) (by decide +kernel), by decide +kernel, by decide +kernel⟩
theorem ok_X6_closeBatch : CodeOk yX6_closeBatch cX6_closeBatch 1 (some .int) 0 := ⟨mgw 310 (by decide +kernel) (by decide +kernel), by decide +kernel, by decide +kernel⟩
theorem ok_X6_crossings : CodeOk yX6_crossings cX6_crossings 7 (some .int) 3 := ⟨mgw 508 (by decide +kernel) (by decide +kernel), by decide +kernel, by decide +kernel⟩
theorem ok_X6_dark : CodeOk yX6_dark cX6_dark 4 (some .int) 1 := ⟨mgw 512 (by decide +kernel) (by decide +kernel), by decide +kernel, by decide +kernel⟩
theorem ok_X6_dropBatch : CodeOk yX6_dropBatch cX6_dropBatch 2 (some .int) 0 := ⟨mgw 322 (by decide +kernel) (by decide +kernel), by decide +kernel, by decide +kernel⟩
theorem ok_X6_effect : CodeOk yX6_effect cX6_effect 4 (some .int) 1 := ⟨mgw 478 (by decide +kernel) (by decide +kernel), by decide +kernel, by decide +kernel⟩
theorem ok_X6_effectChunks : CodeOk yX6_effectChunks cX6_effectChunks 3 (some .int) 0 := ⟨mgw 482 (by decide +kernel) (by decide +kernel), by decide +kernel, by decide +kernel⟩
theorem ok_X6_emission : CodeOk yX6_emission cX6_emission 3 (some .int) 2 := ⟨mgw 432 (by decide +kernel) (by decide +kernel), by decide +kernel, by decide +kernel⟩
theorem ok_X6_faultPosition : CodeOk yX6_faultPosition cX6_faultPosition 1 (some .int) 0 := ⟨mgw 412 (by decide +kernel) (by decide +kernel), by decide +kernel, by decide +kernel⟩
theorem ok_X6_fill : CodeOk yX6_fill cX6_fill 7 (some .int) 6 := ⟨mgw 326 (by decide +kernel) (by decide +kernel), by decide +kernel, by decide +kernel⟩
theorem ok_X6_giverOf : CodeOk yX6_giverOf cX6_giverOf 4 (some .int) 2 := ⟨mgw 463 (by decide +kernel) (by decide +kernel), by decide +kernel, by decide +kernel⟩
theorem ok_X6_histogram : CodeOk yX6_histogram cX6_histogram 5 (some .int) 2 := ⟨mgw 547 (by decide +kernel) (by decide +kernel), by decide +kernel, by decide +kernel⟩
theorem ok_X6_isChannel : CodeOk yX6_isChannel cX6_isChannel 1 (some .boolean) 1 := ⟨mgw 339 (by decide +kernel) (by decide +kernel), by decide +kernel, by decide +kernel⟩
theorem ok_X6_isChunk : CodeOk yX6_isChunk cX6_isChunk 1 (some .boolean) 1 := ⟨mgw 504 (by decide +kernel) (by decide +kernel), by decide +kernel, by decide +kernel⟩
theorem ok_X6_isColor : CodeOk yX6_isColor cX6_isColor 1 (some .boolean) 1 := ⟨mgw 349 (by decide +kernel) (by decide +kernel), by decide +kernel, by decide +kernel⟩
theorem ok_X6_isConsistent : CodeOk yX6_isConsistent cX6_isConsistent 3 (some .int) 0 := ⟨mgw 543 (by decide +kernel) (by decide +kernel), by decide +kernel, by decide +kernel⟩
theorem ok_X6_isStrength : CodeOk yX6_isStrength cX6_isStrength 1 (some .boolean) 1 := ⟨mgw 342 (by decide +kernel) (by decide +kernel), by decide +kernel, by decide +kernel⟩
theorem ok_X6_isType : CodeOk yX6_isType cX6_isType 1 (some .boolean) 1 := ⟨mgw 228 (by decide +kernel) (by decide +kernel), by decide +kernel, by decide +kernel⟩
theorem ok_X6_leaveRegion : CodeOk yX6_leaveRegion cX6_leaveRegion 6 none 1 := ⟨mgw 539 (by decide +kernel) (by decide +kernel), by decide +kernel, by decide +kernel⟩
theorem ok_X6_light : CodeOk yX6_light cX6_light 5 (some .int) 4 := ⟨mgw 436 (by decide +kernel) (by decide +kernel), by decide +kernel, by decide +kernel⟩
theorem ok_X6_lightIf : CodeOk yX6_lightIf cX6_lightIf 10 (some .int) 5 := ⟨mgw 489 (by decide +kernel) (by decide +kernel), by decide +kernel, by decide +kernel⟩
theorem ok_X6_lights : CodeOk yX6_lights cX6_lights 4 (some .int) 3 := ⟨mgw 440 (by decide +kernel) (by decide +kernel), by decide +kernel, by decide +kernel⟩
theorem ok_X6_loss : CodeOk yX6_loss cX6_loss 3 (some .int) 2 := ⟨mgw 428 (by decide +kernel) (by decide +kernel), by decide +kernel, by decide +kernel⟩
theorem ok_X6_needed : CodeOk yX6_needed cX6_needed 9 (some .int) 5 := ⟨mgw 497 (by decide +kernel) (by decide +kernel), by decide +kernel, by decide +kernel⟩
theorem ok_X6_openBatch : CodeOk yX6_openBatch cX6_openBatch 1 (some .int) 0 := ⟨mgw 306 (by decide +kernel) (by decide +kernel), by decide +kernel, by decide +kernel⟩
theorem ok_X6_origin : CodeOk yX6_origin cX6_origin 5 (some .int) 4 := ⟨mgw 448 (by decide +kernel) (by decide +kernel), by decide +kernel, by decide +kernel⟩
theorem ok_X6_originOf : CodeOk yX6_originOf cX6_originOf 7 (some .int) 2 := ⟨mgw 452 (by decide +kernel) (by decide +kernel), by decide +kernel, by decide +kernel⟩
theorem ok_X6_packedLights : CodeOk yX6_packedLights cX6_packedLights 2 (some .int) 1 := ⟨mgw 444 (by decide +kernel) (by decide +kernel), by decide +kernel, by decide +kernel⟩
theorem ok_X6_ray : CodeOk yX6_ray cX6_ray 10 (some .int) 5 := ⟨mgw 527 (by decide +kernel) (by decide +kernel), by decide +kernel, by decide +kernel⟩
theorem ok_X6_read : CodeOk yX6_read cX6_read 2 (some .int) 0 := ⟨mgw 361 (by decide +kernel) (by decide +kernel), by decide +kernel, by decide +kernel⟩
theorem ok_X6_regions : CodeOk yX6_regions cX6_regions 4 (some .int) 1 := ⟨mgw 535 (by decide +kernel) (by decide +kernel), by decide +kernel, by decide +kernel⟩
theorem ok_X6_relight : CodeOk yX6_relight cX6_relight 2 (some .int) 0 := ⟨mgw 253 (by decide +kernel) (by decide +kernel), by decide +kernel, by decide +kernel⟩
theorem ok_X6_restore : CodeOk yX6_restore cX6_restore 1 (some .int) 0 := ⟨mgw 567 (by decide +kernel) (by decide +kernel), by decide +kernel, by decide +kernel⟩
theorem ok_X6_save : CodeOk yX6_save cX6_save 1 (some .int) 0 := ⟨mgw 558 (by decide +kernel) (by decide +kernel), by decide +kernel, by decide +kernel⟩
theorem ok_X6_set : CodeOk yX6_set cX6_set 6 (some .int) 4 := ⟨mgw 222 (by decide +kernel) (by decide +kernel), by decide +kernel, by decide +kernel⟩
theorem ok_X6_setEmission : CodeOk yX6_setEmission cX6_setEmission 4 (some .int) 3 := ⟨mgw 346 (by decide +kernel) (by decide +kernel), by decide +kernel, by decide +kernel⟩
theorem ok_X6_setLoss : CodeOk yX6_setLoss cX6_setLoss 4 (some .int) 3 := ⟨mgw 336 (by decide +kernel) (by decide +kernel), by decide +kernel, by decide +kernel⟩
theorem ok_X6_skyHeight : CodeOk yX6_skyHeight cX6_skyHeight 5 (some .int) 2 := ⟨mgw 523 (by decide +kernel) (by decide +kernel), by decide +kernel, by decide +kernel⟩
theorem ok_X6_spread : CodeOk yX6_spread cX6_spread 7 (some .int) 4 := ⟨mgw 493 (by decide +kernel) (by decide +kernel), by decide +kernel, by decide +kernel⟩
theorem ok_X6_takeTrial : CodeOk yX6_takeTrial cX6_takeTrial 3 none 1 := ⟨mgw 302 (by decide +kernel) (by decide +kernel), by decide +kernel, by decide +kernel⟩
theorem ok_X6_type : CodeOk yX6_type cX6_type 4 (some .int) 3 := ⟨mgw 424 (by decide +kernel) (by decide +kernel), by decide +kernel, by decide +kernel⟩
theorem ok_X6_undo : CodeOk yX6_undo cX6_undo 1 (some .int) 0 := ⟨mgw 416 (by decide +kernel) (by decide +kernel), by decide +kernel, by decide +kernel⟩
theorem ok_X6_wayEnd : CodeOk yX6_wayEnd cX6_wayEnd 9 (some .int) 4 := ⟨mgw 467 (by decide +kernel) (by decide +kernel), by decide +kernel, by decide +kernel⟩
theorem ok_X6_wayLength : CodeOk yX6_wayLength cX6_wayLength 8 (some .int) 4 := ⟨mgw 459 (by decide +kernel) (by decide +kernel), by decide +kernel, by decide +kernel⟩
theorem ok_X7_append : CodeOk yX7_append cX7_append 5 (some .int) 1 := ⟨mgw 757 (by decide +kernel) (by decide +kernel), by decide +kernel, by decide +kernel⟩
theorem ok_X7_batchSize : CodeOk yX7_batchSize cX7_batchSize 1 (some .int) 0 := ⟨mgw 848 (by decide +kernel) (by decide +kernel), by decide +kernel, by decide +kernel⟩
theorem ok_X7_blocks : CodeOk yX7_blocks cX7_blocks 3 (some .int) 0 := ⟨mgw 930 (by decide +kernel) (by decide +kernel), by decide +kernel, by decide +kernel⟩
theorem ok_X7_brightest : CodeOk yX7_brightest cX7_brightest 4 (some .int) 1 := ⟨mgw 899 (by decide +kernel) (by decide +kernel), by decide +kernel, by decide +kernel⟩
theorem ok_X7_cell : CodeOk yX7_cell cX7_cell 3 (some .int) 3 := ⟨mgw 623 (by decide +kernel) (by decide +kernel), by decide +kernel, by decide +kernel⟩
theorem ok_X7_changed : CodeOk yX7_changed cX7_changed 3 (some .int) 0 := ⟨mgw 721 (by decide +kernel) (by decide +kernel), by decide +kernel, by decide +kernel⟩
theorem ok_X7_checksum : CodeOk yX7_checksum cX7_checksum 4 (some .long) 0 := ⟨mgw 919 (by decide +kernel) (by decide +kernel), by decide +kernel, by decide +kernel⟩
theorem ok_X7_chunkOf : CodeOk yX7_chunkOf cX7_chunkOf 1 (some .int) 1 := ⟨mgw 859 (by decide +kernel) (by decide +kernel), by decide +kernel, by decide +kernel⟩
theorem ok_X7_chunkSum : CodeOk yX7_chunkSum cX7_chunkSum 5 (some .int) 2 := ⟨mgw 879 (by decide +kernel) (by decide +kernel), by decide +kernel, by decide +kernel⟩
theorem ok_X7_closeBatch : CodeOk yX7_closeBatch cX7_closeBatch 2 (some .int) 0 := ⟨mgw 733 (by decide +kernel) (by decide +kernel), by decide +kernel, by decide +kernel⟩
theorem ok_X7_code : CodeOk yX7_code cX7_code 1 (some .int) 1 := ⟨mgw 844 (by decide +kernel) (by decide +kernel), by decide +kernel, by decide +kernel⟩
theorem ok_X7_collect : CodeOk yX7_collect cX7_collect 4 (some .int) 2 := ⟨mgw 713 (by decide +kernel) (by decide +kernel), by decide +kernel, by decide +kernel⟩
theorem ok_X7_crossings : CodeOk yX7_crossings cX7_crossings 7 (some .int) 3 := ⟨mgw 883 (by decide +kernel) (by decide +kernel), by decide +kernel, by decide +kernel⟩
theorem ok_X7_dark : CodeOk yX7_dark cX7_dark 6 (some .int) 1 := ⟨mgw 887 (by decide +kernel) (by decide +kernel), by decide +kernel, by decide +kernel⟩
theorem ok_X7_dropBatch : CodeOk yX7_dropBatch cX7_dropBatch 1 (some .int) 0 := ⟨mgw 737 (by decide +kernel) (by decide +kernel), by decide +kernel, by decide +kernel⟩
theorem ok_X7_effect : CodeOk yX7_effect cX7_effect 4 (some .int) 1 := ⟨mgw 852 (by decide +kernel) (by decide +kernel), by decide +kernel, by decide +kernel⟩
theorem ok_X7_effectChunks : CodeOk yX7_effectChunks cX7_effectChunks 3 (some .int) 0 := ⟨mgw 856 (by decide +kernel) (by decide +kernel), by decide +kernel, by decide +kernel⟩
theorem ok_X7_effectMany : CodeOk yX7_effectMany cX7_effectMany 3 (some .int) 0 := ⟨mgw 725 (by decide +kernel) (by decide +kernel), by decide +kernel, by decide +kernel⟩
theorem ok_X7_emission : CodeOk yX7_emission cX7_emission 3 (some .int) 2 := ⟨mgw 805 (by decide +kernel) (by decide +kernel), by decide +kernel, by decide +kernel⟩
theorem ok_X7_emissionOf : CodeOk yX7_emissionOf cX7_emissionOf 3 (some .int) 2 := ⟨mgw 585 (by decide +kernel) (by decide +kernel), by decide +kernel, by decide +kernel⟩
theorem ok_X7_execute : CodeOk yX7_execute cX7_execute 5 none 1 := ⟨mgw 785 (by decide +kernel) (by decide +kernel), by decide +kernel, by decide +kernel⟩
theorem ok_X7_faultPosition : CodeOk yX7_faultPosition cX7_faultPosition 1 (some .int) 0 := ⟨mgw 789 (by decide +kernel) (by decide +kernel), by decide +kernel, by decide +kernel⟩
theorem ok_X7_fill : CodeOk yX7_fill cX7_fill 7 (some .int) 6 := ⟨mgw 741 (by decide +kernel) (by decide +kernel), by decide +kernel, by decide +kernel⟩
theorem ok_X7_goBack : CodeOk yX7_goBack cX7_goBack 5 (some .int) 2 := ⟨mgw 837 (by decide +kernel) (by decide +kernel), by decide +kernel, by decide +kernel⟩
theorem ok_X7_here : CodeOk yX7_here cX7_here 1 (some .int) 0 := ⟨mgw 769 (by decide +kernel) (by decide +kernel), by decide +kernel, by decide +kernel⟩
theorem ok_X7_histogram : CodeOk yX7_histogram cX7_histogram 5 (some .int) 2 := ⟨mgw 915 (by decide +kernel) (by decide +kernel), by decide +kernel, by decide +kernel⟩
theorem ok_X7_in : CodeOk yX7_in cX7_in 3 (some .boolean) 3 := ⟨mgw 620 (by decide +kernel) (by decide +kernel), by decide +kernel, by decide +kernel⟩
theorem ok_X7_isCell : CodeOk yX7_isCell cX7_isCell 3 (some .boolean) 3 := ⟨mgw 617 (by decide +kernel) (by decide +kernel), by decide +kernel, by decide +kernel⟩
theorem ok_X7_isConsistent : CodeOk yX7_isConsistent cX7_isConsistent 4 (some .int) 0 := ⟨mgw 911 (by decide +kernel) (by decide +kernel), by decide +kernel, by decide +kernel⟩
theorem ok_X7_isGood : CodeOk yX7_isGood cX7_isGood 8 (some .boolean) 1 := ⟨mgw 781 (by decide +kernel) (by decide +kernel), by decide +kernel, by decide +kernel⟩
theorem ok_X7_isType : CodeOk yX7_isType cX7_isType 1 (some .boolean) 1 := ⟨mgw 709 (by decide +kernel) (by decide +kernel), by decide +kernel, by decide +kernel⟩
theorem ok_X7_keep : CodeOk yX7_keep cX7_keep 2 none 0 := ⟨mgw 717 (by decide +kernel) (by decide +kernel), by decide +kernel, by decide +kernel⟩
theorem ok_X7_lay : CodeOk yX7_lay cX7_lay 6 none 1 := ⟨mgw 581 (by decide +kernel) (by decide +kernel), by decide +kernel, by decide +kernel⟩
theorem ok_X7_layAll : CodeOk yX7_layAll cX7_layAll 3 none 0 := ⟨mgw 577 (by decide +kernel) (by decide +kernel), by decide +kernel, by decide +kernel⟩
theorem ok_X7_laySun : CodeOk yX7_laySun cX7_laySun 3 none 0 := ⟨mgw 593 (by decide +kernel) (by decide +kernel), by decide +kernel, by decide +kernel⟩
theorem ok_X7_layWith : CodeOk yX7_layWith cX7_layWith 5 none 4 := ⟨mgw 867 (by decide +kernel) (by decide +kernel), by decide +kernel, by decide +kernel⟩
theorem ok_X7_lays : CodeOk yX7_lays cX7_lays 10 none 7 := ⟨mgw 745 (by decide +kernel) (by decide +kernel), by decide +kernel, by decide +kernel⟩
theorem ok_X7_light : CodeOk yX7_light cX7_light 5 (some .int) 4 := ⟨mgw 809 (by decide +kernel) (by decide +kernel), by decide +kernel, by decide +kernel⟩
theorem ok_X7_lightIf : CodeOk yX7_lightIf cX7_lightIf 8 (some .int) 5 := ⟨mgw 863 (by decide +kernel) (by decide +kernel), by decide +kernel, by decide +kernel⟩
theorem ok_X7_lightOf : CodeOk yX7_lightOf cX7_lightOf 3 (some .int) 2 := ⟨mgw 813 (by decide +kernel) (by decide +kernel), by decide +kernel, by decide +kernel⟩
theorem ok_X7_lights : CodeOk yX7_lights cX7_lights 4 (some .int) 3 := ⟨mgw 817 (by decide +kernel) (by decide +kernel), by decide +kernel, by decide +kernel⟩
theorem ok_X7_lightsOf : CodeOk yX7_lightsOf cX7_lightsOf 2 (some .int) 1 := ⟨mgw 821 (by decide +kernel) (by decide +kernel), by decide +kernel, by decide +kernel⟩
theorem ok_X7_loss : CodeOk yX7_loss cX7_loss 3 (some .int) 2 := ⟨mgw 801 (by decide +kernel) (by decide +kernel), by decide +kernel, by decide +kernel⟩
theorem ok_X7_lossOf : CodeOk yX7_lossOf cX7_lossOf 3 (some .int) 2 := ⟨mgw 600 (by decide +kernel) (by decide +kernel), by decide +kernel, by decide +kernel⟩
theorem ok_X7_needed : CodeOk yX7_needed cX7_needed 7 (some .int) 5 := ⟨mgw 875 (by decide +kernel) (by decide +kernel), by decide +kernel, by decide +kernel⟩
theorem ok_X7_next : CodeOk yX7_next cX7_next 6 (some .int) 2 := ⟨mgw 608 (by decide +kernel) (by decide +kernel), by decide +kernel, by decide +kernel⟩
theorem ok_X7_number : CodeOk yX7_number cX7_number 2 (some .int) 0 := ⟨mgw 777 (by decide +kernel) (by decide +kernel), by decide +kernel, by decide +kernel⟩
theorem ok_X7_openBatch : CodeOk yX7_openBatch cX7_openBatch 1 (some .int) 0 := ⟨mgw 729 (by decide +kernel) (by decide +kernel), by decide +kernel, by decide +kernel⟩
theorem ok_X7_origin : CodeOk yX7_origin cX7_origin 6 (some .int) 4 := ⟨mgw 825 (by decide +kernel) (by decide +kernel), by decide +kernel, by decide +kernel⟩
theorem ok_X7_originOf : CodeOk yX7_originOf cX7_originOf 6 (some .int) 2 := ⟨mgw 829 (by decide +kernel) (by decide +kernel), by decide +kernel, by decide +kernel⟩
theorem ok_X7_raise : CodeOk yX7_raise cX7_raise 3 none 2 := ⟨mgw 604 (by decide +kernel) (by decide +kernel), by decide +kernel, by decide +kernel⟩
theorem ok_X7_ray : CodeOk yX7_ray cX7_ray 9 (some .int) 5 := ⟨mgw 895 (by decide +kernel) (by decide +kernel), by decide +kernel, by decide +kernel⟩
theorem ok_X7_read : CodeOk yX7_read cX7_read 3 (some .int) 0 := ⟨mgw 761 (by decide +kernel) (by decide +kernel), by decide +kernel, by decide +kernel⟩
theorem ok_X7_readOne : CodeOk yX7_readOne cX7_readOne 5 none 0 := ⟨mgw 765 (by decide +kernel) (by decide +kernel), by decide +kernel, by decide +kernel⟩
theorem ok_X7_regions : CodeOk yX7_regions cX7_regions 4 (some .int) 1 := ⟨mgw 903 (by decide +kernel) (by decide +kernel), by decide +kernel, by decide +kernel⟩
theorem ok_X7_restore : CodeOk yX7_restore cX7_restore 2 (some .int) 0 := ⟨mgw 934 (by decide +kernel) (by decide +kernel), by decide +kernel, by decide +kernel⟩
theorem ok_X7_save : CodeOk yX7_save cX7_save 2 (some .int) 0 := ⟨mgw 926 (by decide +kernel) (by decide +kernel), by decide +kernel, by decide +kernel⟩
theorem ok_X7_set : CodeOk yX7_set cX7_set 5 (some .int) 4 := ⟨mgw 706 (by decide +kernel) (by decide +kernel), by decide +kernel, by decide +kernel⟩
theorem ok_X7_setEmission : CodeOk yX7_setEmission cX7_setEmission 4 (some .int) 3 := ⟨mgw 753 (by decide +kernel) (by decide +kernel), by decide +kernel, by decide +kernel⟩
theorem ok_X7_setLoss : CodeOk yX7_setLoss cX7_setLoss 4 (some .int) 3 := ⟨mgw 749 (by decide +kernel) (by decide +kernel), by decide +kernel, by decide +kernel⟩
theorem ok_X7_skyHeight : CodeOk yX7_skyHeight cX7_skyHeight 4 (some .int) 2 := ⟨mgw 891 (by decide +kernel) (by decide +kernel), by decide +kernel, by decide +kernel⟩
theorem ok_X7_spread : CodeOk yX7_spread cX7_spread 7 (some .int) 4 := ⟨mgw 871 (by decide +kernel) (by decide +kernel), by decide +kernel, by decide +kernel⟩
theorem ok_X7_take : CodeOk yX7_take cX7_take 2 none 1 := ⟨mgw 773 (by decide +kernel) (by decide +kernel), by decide +kernel, by decide +kernel⟩
theorem ok_X7_takeRegion : CodeOk yX7_takeRegion cX7_takeRegion 6 none 1 := ⟨mgw 907 (by decide +kernel) (by decide +kernel), by decide +kernel, by decide +kernel⟩
theorem ok_X7_type : CodeOk yX7_type cX7_type 4 (some .int) 3 := ⟨mgw 797 (by decide +kernel) (by decide +kernel), by decide +kernel, by decide +kernel⟩
theorem ok_X7_typeOf : CodeOk yX7_typeOf cX7_typeOf 2 (some .int) 1 := ⟨mgw 589 (by decide +kernel) (by decide +kernel), by decide +kernel, by decide +kernel⟩
theorem ok_X7_undo : CodeOk yX7_undo cX7_undo 2 (some .int) 0 := ⟨mgw 793 (by decide +kernel) (by decide +kernel), by decide +kernel, by decide +kernel⟩
theorem ok_X7_wayEnd : CodeOk yX7_wayEnd cX7_wayEnd 5 (some .int) 4 := ⟨mgw 841 (by decide +kernel) (by decide +kernel), by decide +kernel, by decide +kernel⟩
theorem ok_X7_wayLength : CodeOk yX7_wayLength cX7_wayLength 5 (some .int) 4 := ⟨mgw 833 (by decide +kernel) (by decide +kernel), by decide +kernel, by decide +kernel⟩
theorem ok_X7_xOf : CodeOk yX7_xOf cX7_xOf 1 (some .int) 1 := ⟨mgw 611 (by decide +kernel) (by decide +kernel), by decide +kernel, by decide +kernel⟩
theorem ok_X7_yOf : CodeOk yX7_yOf cX7_yOf 1 (some .int) 1 := ⟨mgw 596 (by decide +kernel) (by decide +kernel), by decide +kernel, by decide +kernel⟩
theorem ok_X7_zOf : CodeOk yX7_zOf cX7_zOf 1 (some .int) 1 := ⟨mgw 614 (by decide +kernel) (by decide +kernel), by decide +kernel, by decide +kernel⟩
theorem lk_L_13 : LkV "LightPropagatorLaw" 13 yX6_set := ⟨mgw 219 (by decide +kernel) (by decide +kernel), mgw 220 (by decide +kernel) (by decide +kernel), mgw 42 (by decide +kernel) (by decide +kernel), mgw 221 (by decide +kernel) (by decide +kernel)⟩
theorem lk_L_17 : LkV "LightPropagatorLaw" 17 yX7_set := ⟨mgw 703 (by decide +kernel) (by decide +kernel), mgw 704 (by decide +kernel) (by decide +kernel), mgw 48 (by decide +kernel) (by decide +kernel), mgw 705 (by decide +kernel) (by decide +kernel)⟩
theorem lk_L_18 : LkV "LightPropagatorLaw" 18 yX6_openBatch := ⟨mgw 303 (by decide +kernel) (by decide +kernel), mgw 304 (by decide +kernel) (by decide +kernel), mgw 42 (by decide +kernel) (by decide +kernel), mgw 305 (by decide +kernel) (by decide +kernel)⟩
theorem lk_L_22 : LkV "LightPropagatorLaw" 22 yX7_openBatch := ⟨mgw 726 (by decide +kernel) (by decide +kernel), mgw 727 (by decide +kernel) (by decide +kernel), mgw 48 (by decide +kernel) (by decide +kernel), mgw 728 (by decide +kernel) (by decide +kernel)⟩
theorem lk_L_23 : LkV "LightPropagatorLaw" 23 yX6_closeBatch := ⟨mgw 307 (by decide +kernel) (by decide +kernel), mgw 308 (by decide +kernel) (by decide +kernel), mgw 42 (by decide +kernel) (by decide +kernel), mgw 309 (by decide +kernel) (by decide +kernel)⟩
theorem lk_L_26 : LkV "LightPropagatorLaw" 26 yX7_closeBatch := ⟨mgw 730 (by decide +kernel) (by decide +kernel), mgw 731 (by decide +kernel) (by decide +kernel), mgw 48 (by decide +kernel) (by decide +kernel), mgw 732 (by decide +kernel) (by decide +kernel)⟩
theorem lk_L_27 : LkV "LightPropagatorLaw" 27 yX6_dropBatch := ⟨mgw 319 (by decide +kernel) (by decide +kernel), mgw 320 (by decide +kernel) (by decide +kernel), mgw 42 (by decide +kernel) (by decide +kernel), mgw 321 (by decide +kernel) (by decide +kernel)⟩
theorem lk_L_30 : LkV "LightPropagatorLaw" 30 yX7_dropBatch := ⟨mgw 734 (by decide +kernel) (by decide +kernel), mgw 735 (by decide +kernel) (by decide +kernel), mgw 48 (by decide +kernel) (by decide +kernel), mgw 736 (by decide +kernel) (by decide +kernel)⟩
theorem lk_L_31 : LkV "LightPropagatorLaw" 31 yX6_fill := ⟨mgw 323 (by decide +kernel) (by decide +kernel), mgw 324 (by decide +kernel) (by decide +kernel), mgw 42 (by decide +kernel) (by decide +kernel), mgw 325 (by decide +kernel) (by decide +kernel)⟩
theorem lk_L_35 : LkV "LightPropagatorLaw" 35 yX7_fill := ⟨mgw 738 (by decide +kernel) (by decide +kernel), mgw 739 (by decide +kernel) (by decide +kernel), mgw 48 (by decide +kernel) (by decide +kernel), mgw 740 (by decide +kernel) (by decide +kernel)⟩
theorem lk_L_36 : LkV "LightPropagatorLaw" 36 yX6_setLoss := ⟨mgw 333 (by decide +kernel) (by decide +kernel), mgw 334 (by decide +kernel) (by decide +kernel), mgw 42 (by decide +kernel) (by decide +kernel), mgw 335 (by decide +kernel) (by decide +kernel)⟩
theorem lk_L_40 : LkV "LightPropagatorLaw" 40 yX7_setLoss := ⟨mgw 746 (by decide +kernel) (by decide +kernel), mgw 747 (by decide +kernel) (by decide +kernel), mgw 48 (by decide +kernel) (by decide +kernel), mgw 748 (by decide +kernel) (by decide +kernel)⟩
theorem lk_L_41 : LkV "LightPropagatorLaw" 41 yX6_setEmission := ⟨mgw 343 (by decide +kernel) (by decide +kernel), mgw 344 (by decide +kernel) (by decide +kernel), mgw 42 (by decide +kernel) (by decide +kernel), mgw 345 (by decide +kernel) (by decide +kernel)⟩
theorem lk_L_44 : LkV "LightPropagatorLaw" 44 yX7_setEmission := ⟨mgw 750 (by decide +kernel) (by decide +kernel), mgw 751 (by decide +kernel) (by decide +kernel), mgw 48 (by decide +kernel) (by decide +kernel), mgw 752 (by decide +kernel) (by decide +kernel)⟩
theorem lk_L_45 : LkV "LightPropagatorLaw" 45 yX6_append := ⟨mgw 350 (by decide +kernel) (by decide +kernel), mgw 351 (by decide +kernel) (by decide +kernel), mgw 42 (by decide +kernel) (by decide +kernel), mgw 352 (by decide +kernel) (by decide +kernel)⟩
theorem lk_L_49 : LkV "LightPropagatorLaw" 49 yX7_append := ⟨mgw 754 (by decide +kernel) (by decide +kernel), mgw 755 (by decide +kernel) (by decide +kernel), mgw 48 (by decide +kernel) (by decide +kernel), mgw 756 (by decide +kernel) (by decide +kernel)⟩
theorem lk_L_50 : LkV "LightPropagatorLaw" 50 yX6_read := ⟨mgw 358 (by decide +kernel) (by decide +kernel), mgw 359 (by decide +kernel) (by decide +kernel), mgw 42 (by decide +kernel) (by decide +kernel), mgw 360 (by decide +kernel) (by decide +kernel)⟩
theorem lk_L_53 : LkV "LightPropagatorLaw" 53 yX7_read := ⟨mgw 758 (by decide +kernel) (by decide +kernel), mgw 759 (by decide +kernel) (by decide +kernel), mgw 48 (by decide +kernel) (by decide +kernel), mgw 760 (by decide +kernel) (by decide +kernel)⟩
theorem lk_L_54 : LkV "LightPropagatorLaw" 54 yX6_faultPosition := ⟨mgw 409 (by decide +kernel) (by decide +kernel), mgw 410 (by decide +kernel) (by decide +kernel), mgw 42 (by decide +kernel) (by decide +kernel), mgw 411 (by decide +kernel) (by decide +kernel)⟩
theorem lk_L_57 : LkV "LightPropagatorLaw" 57 yX7_faultPosition := ⟨mgw 786 (by decide +kernel) (by decide +kernel), mgw 787 (by decide +kernel) (by decide +kernel), mgw 48 (by decide +kernel) (by decide +kernel), mgw 788 (by decide +kernel) (by decide +kernel)⟩
theorem lk_L_58 : LkV "LightPropagatorLaw" 58 yX6_undo := ⟨mgw 413 (by decide +kernel) (by decide +kernel), mgw 414 (by decide +kernel) (by decide +kernel), mgw 42 (by decide +kernel) (by decide +kernel), mgw 415 (by decide +kernel) (by decide +kernel)⟩
theorem lk_L_61 : LkV "LightPropagatorLaw" 61 yX7_undo := ⟨mgw 790 (by decide +kernel) (by decide +kernel), mgw 791 (by decide +kernel) (by decide +kernel), mgw 48 (by decide +kernel) (by decide +kernel), mgw 792 (by decide +kernel) (by decide +kernel)⟩
theorem lk_L_62 : LkV "LightPropagatorLaw" 62 yX6_type := ⟨mgw 421 (by decide +kernel) (by decide +kernel), mgw 422 (by decide +kernel) (by decide +kernel), mgw 42 (by decide +kernel) (by decide +kernel), mgw 423 (by decide +kernel) (by decide +kernel)⟩
theorem lk_L_65 : LkV "LightPropagatorLaw" 65 yX7_type := ⟨mgw 794 (by decide +kernel) (by decide +kernel), mgw 795 (by decide +kernel) (by decide +kernel), mgw 48 (by decide +kernel) (by decide +kernel), mgw 796 (by decide +kernel) (by decide +kernel)⟩
theorem lk_L_66 : LkV "LightPropagatorLaw" 66 yX6_loss := ⟨mgw 425 (by decide +kernel) (by decide +kernel), mgw 426 (by decide +kernel) (by decide +kernel), mgw 42 (by decide +kernel) (by decide +kernel), mgw 427 (by decide +kernel) (by decide +kernel)⟩
theorem lk_L_70 : LkV "LightPropagatorLaw" 70 yX7_loss := ⟨mgw 798 (by decide +kernel) (by decide +kernel), mgw 799 (by decide +kernel) (by decide +kernel), mgw 48 (by decide +kernel) (by decide +kernel), mgw 800 (by decide +kernel) (by decide +kernel)⟩
theorem lk_L_71 : LkV "LightPropagatorLaw" 71 yX6_emission := ⟨mgw 429 (by decide +kernel) (by decide +kernel), mgw 430 (by decide +kernel) (by decide +kernel), mgw 42 (by decide +kernel) (by decide +kernel), mgw 431 (by decide +kernel) (by decide +kernel)⟩
theorem lk_L_74 : LkV "LightPropagatorLaw" 74 yX7_emission := ⟨mgw 802 (by decide +kernel) (by decide +kernel), mgw 803 (by decide +kernel) (by decide +kernel), mgw 48 (by decide +kernel) (by decide +kernel), mgw 804 (by decide +kernel) (by decide +kernel)⟩
theorem lk_L_75 : LkV "LightPropagatorLaw" 75 yX6_light := ⟨mgw 433 (by decide +kernel) (by decide +kernel), mgw 434 (by decide +kernel) (by decide +kernel), mgw 42 (by decide +kernel) (by decide +kernel), mgw 435 (by decide +kernel) (by decide +kernel)⟩
theorem lk_L_78 : LkV "LightPropagatorLaw" 78 yX7_light := ⟨mgw 806 (by decide +kernel) (by decide +kernel), mgw 807 (by decide +kernel) (by decide +kernel), mgw 48 (by decide +kernel) (by decide +kernel), mgw 808 (by decide +kernel) (by decide +kernel)⟩
theorem lk_L_79 : LkV "LightPropagatorLaw" 79 yX6_lights := ⟨mgw 437 (by decide +kernel) (by decide +kernel), mgw 438 (by decide +kernel) (by decide +kernel), mgw 42 (by decide +kernel) (by decide +kernel), mgw 439 (by decide +kernel) (by decide +kernel)⟩
theorem lk_L_82 : LkV "LightPropagatorLaw" 82 yX7_lights := ⟨mgw 814 (by decide +kernel) (by decide +kernel), mgw 815 (by decide +kernel) (by decide +kernel), mgw 48 (by decide +kernel) (by decide +kernel), mgw 816 (by decide +kernel) (by decide +kernel)⟩
theorem lk_L_83 : LkV "LightPropagatorLaw" 83 yX6_origin := ⟨mgw 445 (by decide +kernel) (by decide +kernel), mgw 446 (by decide +kernel) (by decide +kernel), mgw 42 (by decide +kernel) (by decide +kernel), mgw 447 (by decide +kernel) (by decide +kernel)⟩
theorem lk_L_86 : LkV "LightPropagatorLaw" 86 yX7_origin := ⟨mgw 822 (by decide +kernel) (by decide +kernel), mgw 823 (by decide +kernel) (by decide +kernel), mgw 48 (by decide +kernel) (by decide +kernel), mgw 824 (by decide +kernel) (by decide +kernel)⟩
theorem lk_L_87 : LkV "LightPropagatorLaw" 87 yX6_wayLength := ⟨mgw 456 (by decide +kernel) (by decide +kernel), mgw 457 (by decide +kernel) (by decide +kernel), mgw 42 (by decide +kernel) (by decide +kernel), mgw 458 (by decide +kernel) (by decide +kernel)⟩
theorem lk_L_90 : LkV "LightPropagatorLaw" 90 yX7_wayLength := ⟨mgw 830 (by decide +kernel) (by decide +kernel), mgw 831 (by decide +kernel) (by decide +kernel), mgw 48 (by decide +kernel) (by decide +kernel), mgw 832 (by decide +kernel) (by decide +kernel)⟩
theorem lk_L_91 : LkV "LightPropagatorLaw" 91 yX6_wayEnd := ⟨mgw 464 (by decide +kernel) (by decide +kernel), mgw 465 (by decide +kernel) (by decide +kernel), mgw 42 (by decide +kernel) (by decide +kernel), mgw 466 (by decide +kernel) (by decide +kernel)⟩
theorem lk_L_94 : LkV "LightPropagatorLaw" 94 yX7_wayEnd := ⟨mgw 838 (by decide +kernel) (by decide +kernel), mgw 839 (by decide +kernel) (by decide +kernel), mgw 48 (by decide +kernel) (by decide +kernel), mgw 840 (by decide +kernel) (by decide +kernel)⟩
theorem lk_L_95 : LkV "LightPropagatorLaw" 95 yX6_batchSize := ⟨mgw 471 (by decide +kernel) (by decide +kernel), mgw 472 (by decide +kernel) (by decide +kernel), mgw 42 (by decide +kernel) (by decide +kernel), mgw 473 (by decide +kernel) (by decide +kernel)⟩
theorem lk_L_98 : LkV "LightPropagatorLaw" 98 yX7_batchSize := ⟨mgw 845 (by decide +kernel) (by decide +kernel), mgw 846 (by decide +kernel) (by decide +kernel), mgw 48 (by decide +kernel) (by decide +kernel), mgw 847 (by decide +kernel) (by decide +kernel)⟩
theorem lk_L_99 : LkV "LightPropagatorLaw" 99 yX6_effect := ⟨mgw 475 (by decide +kernel) (by decide +kernel), mgw 476 (by decide +kernel) (by decide +kernel), mgw 42 (by decide +kernel) (by decide +kernel), mgw 477 (by decide +kernel) (by decide +kernel)⟩
theorem lk_L_102 : LkV "LightPropagatorLaw" 102 yX7_effect := ⟨mgw 849 (by decide +kernel) (by decide +kernel), mgw 850 (by decide +kernel) (by decide +kernel), mgw 48 (by decide +kernel) (by decide +kernel), mgw 851 (by decide +kernel) (by decide +kernel)⟩
theorem lk_L_103 : LkV "LightPropagatorLaw" 103 yX6_effectChunks := ⟨mgw 479 (by decide +kernel) (by decide +kernel), mgw 480 (by decide +kernel) (by decide +kernel), mgw 42 (by decide +kernel) (by decide +kernel), mgw 481 (by decide +kernel) (by decide +kernel)⟩
theorem lk_L_106 : LkV "LightPropagatorLaw" 106 yX7_effectChunks := ⟨mgw 853 (by decide +kernel) (by decide +kernel), mgw 854 (by decide +kernel) (by decide +kernel), mgw 48 (by decide +kernel) (by decide +kernel), mgw 855 (by decide +kernel) (by decide +kernel)⟩
theorem lk_L_107 : LkV "LightPropagatorLaw" 107 yX6_lightIf := ⟨mgw 486 (by decide +kernel) (by decide +kernel), mgw 487 (by decide +kernel) (by decide +kernel), mgw 42 (by decide +kernel) (by decide +kernel), mgw 488 (by decide +kernel) (by decide +kernel)⟩
theorem lk_L_111 : LkV "LightPropagatorLaw" 111 yX7_lightIf := ⟨mgw 860 (by decide +kernel) (by decide +kernel), mgw 861 (by decide +kernel) (by decide +kernel), mgw 48 (by decide +kernel) (by decide +kernel), mgw 862 (by decide +kernel) (by decide +kernel)⟩
theorem lk_L_112 : LkV "LightPropagatorLaw" 112 yX6_spread := ⟨mgw 490 (by decide +kernel) (by decide +kernel), mgw 491 (by decide +kernel) (by decide +kernel), mgw 42 (by decide +kernel) (by decide +kernel), mgw 492 (by decide +kernel) (by decide +kernel)⟩
theorem lk_L_115 : LkV "LightPropagatorLaw" 115 yX7_spread := ⟨mgw 868 (by decide +kernel) (by decide +kernel), mgw 869 (by decide +kernel) (by decide +kernel), mgw 48 (by decide +kernel) (by decide +kernel), mgw 870 (by decide +kernel) (by decide +kernel)⟩
theorem lk_L_116 : LkV "LightPropagatorLaw" 116 yX6_needed := ⟨mgw 494 (by decide +kernel) (by decide +kernel), mgw 495 (by decide +kernel) (by decide +kernel), mgw 42 (by decide +kernel) (by decide +kernel), mgw 496 (by decide +kernel) (by decide +kernel)⟩
theorem lk_L_119 : LkV "LightPropagatorLaw" 119 yX7_needed := ⟨mgw 872 (by decide +kernel) (by decide +kernel), mgw 873 (by decide +kernel) (by decide +kernel), mgw 48 (by decide +kernel) (by decide +kernel), mgw 874 (by decide +kernel) (by decide +kernel)⟩
theorem lk_L_120 : LkV "LightPropagatorLaw" 120 yX6_chunkSum := ⟨mgw 498 (by decide +kernel) (by decide +kernel), mgw 499 (by decide +kernel) (by decide +kernel), mgw 42 (by decide +kernel) (by decide +kernel), mgw 500 (by decide +kernel) (by decide +kernel)⟩
theorem lk_L_123 : LkV "LightPropagatorLaw" 123 yX7_chunkSum := ⟨mgw 876 (by decide +kernel) (by decide +kernel), mgw 877 (by decide +kernel) (by decide +kernel), mgw 48 (by decide +kernel) (by decide +kernel), mgw 878 (by decide +kernel) (by decide +kernel)⟩
theorem lk_L_124 : LkV "LightPropagatorLaw" 124 yX6_crossings := ⟨mgw 505 (by decide +kernel) (by decide +kernel), mgw 506 (by decide +kernel) (by decide +kernel), mgw 42 (by decide +kernel) (by decide +kernel), mgw 507 (by decide +kernel) (by decide +kernel)⟩
theorem lk_L_127 : LkV "LightPropagatorLaw" 127 yX7_crossings := ⟨mgw 880 (by decide +kernel) (by decide +kernel), mgw 881 (by decide +kernel) (by decide +kernel), mgw 48 (by decide +kernel) (by decide +kernel), mgw 882 (by decide +kernel) (by decide +kernel)⟩
theorem lk_L_128 : LkV "LightPropagatorLaw" 128 yX6_dark := ⟨mgw 509 (by decide +kernel) (by decide +kernel), mgw 510 (by decide +kernel) (by decide +kernel), mgw 42 (by decide +kernel) (by decide +kernel), mgw 511 (by decide +kernel) (by decide +kernel)⟩
theorem lk_L_131 : LkV "LightPropagatorLaw" 131 yX7_dark := ⟨mgw 884 (by decide +kernel) (by decide +kernel), mgw 885 (by decide +kernel) (by decide +kernel), mgw 48 (by decide +kernel) (by decide +kernel), mgw 886 (by decide +kernel) (by decide +kernel)⟩
theorem lk_L_132 : LkV "LightPropagatorLaw" 132 yX6_skyHeight := ⟨mgw 520 (by decide +kernel) (by decide +kernel), mgw 521 (by decide +kernel) (by decide +kernel), mgw 42 (by decide +kernel) (by decide +kernel), mgw 522 (by decide +kernel) (by decide +kernel)⟩
theorem lk_L_135 : LkV "LightPropagatorLaw" 135 yX7_skyHeight := ⟨mgw 888 (by decide +kernel) (by decide +kernel), mgw 889 (by decide +kernel) (by decide +kernel), mgw 48 (by decide +kernel) (by decide +kernel), mgw 890 (by decide +kernel) (by decide +kernel)⟩
theorem lk_L_136 : LkV "LightPropagatorLaw" 136 yX6_ray := ⟨mgw 524 (by decide +kernel) (by decide +kernel), mgw 525 (by decide +kernel) (by decide +kernel), mgw 42 (by decide +kernel) (by decide +kernel), mgw 526 (by decide +kernel) (by decide +kernel)⟩
theorem lk_L_139 : LkV "LightPropagatorLaw" 139 yX7_ray := ⟨mgw 892 (by decide +kernel) (by decide +kernel), mgw 893 (by decide +kernel) (by decide +kernel), mgw 48 (by decide +kernel) (by decide +kernel), mgw 894 (by decide +kernel) (by decide +kernel)⟩
theorem lk_L_140 : LkV "LightPropagatorLaw" 140 yX6_brightest := ⟨mgw 528 (by decide +kernel) (by decide +kernel), mgw 529 (by decide +kernel) (by decide +kernel), mgw 42 (by decide +kernel) (by decide +kernel), mgw 530 (by decide +kernel) (by decide +kernel)⟩
theorem lk_L_143 : LkV "LightPropagatorLaw" 143 yX7_brightest := ⟨mgw 896 (by decide +kernel) (by decide +kernel), mgw 897 (by decide +kernel) (by decide +kernel), mgw 48 (by decide +kernel) (by decide +kernel), mgw 898 (by decide +kernel) (by decide +kernel)⟩
theorem lk_L_144 : LkV "LightPropagatorLaw" 144 yX6_regions := ⟨mgw 532 (by decide +kernel) (by decide +kernel), mgw 533 (by decide +kernel) (by decide +kernel), mgw 42 (by decide +kernel) (by decide +kernel), mgw 534 (by decide +kernel) (by decide +kernel)⟩
theorem lk_L_147 : LkV "LightPropagatorLaw" 147 yX7_regions := ⟨mgw 900 (by decide +kernel) (by decide +kernel), mgw 901 (by decide +kernel) (by decide +kernel), mgw 48 (by decide +kernel) (by decide +kernel), mgw 902 (by decide +kernel) (by decide +kernel)⟩
theorem lk_L_148 : LkV "LightPropagatorLaw" 148 yX6_isConsistent := ⟨mgw 540 (by decide +kernel) (by decide +kernel), mgw 541 (by decide +kernel) (by decide +kernel), mgw 42 (by decide +kernel) (by decide +kernel), mgw 542 (by decide +kernel) (by decide +kernel)⟩
theorem lk_L_151 : LkV "LightPropagatorLaw" 151 yX7_isConsistent := ⟨mgw 908 (by decide +kernel) (by decide +kernel), mgw 909 (by decide +kernel) (by decide +kernel), mgw 48 (by decide +kernel) (by decide +kernel), mgw 910 (by decide +kernel) (by decide +kernel)⟩
theorem lk_L_152 : LkV "LightPropagatorLaw" 152 yX6_histogram := ⟨mgw 544 (by decide +kernel) (by decide +kernel), mgw 545 (by decide +kernel) (by decide +kernel), mgw 42 (by decide +kernel) (by decide +kernel), mgw 546 (by decide +kernel) (by decide +kernel)⟩
theorem lk_L_155 : LkV "LightPropagatorLaw" 155 yX7_histogram := ⟨mgw 912 (by decide +kernel) (by decide +kernel), mgw 913 (by decide +kernel) (by decide +kernel), mgw 48 (by decide +kernel) (by decide +kernel), mgw 914 (by decide +kernel) (by decide +kernel)⟩
theorem lk_L_156 : LkV "LightPropagatorLaw" 156 yX6_checksum := ⟨mgw 548 (by decide +kernel) (by decide +kernel), mgw 549 (by decide +kernel) (by decide +kernel), mgw 42 (by decide +kernel) (by decide +kernel), mgw 550 (by decide +kernel) (by decide +kernel)⟩
theorem lk_L_160 : LkV "LightPropagatorLaw" 160 yX7_checksum := ⟨mgw 916 (by decide +kernel) (by decide +kernel), mgw 917 (by decide +kernel) (by decide +kernel), mgw 48 (by decide +kernel) (by decide +kernel), mgw 918 (by decide +kernel) (by decide +kernel)⟩
theorem lk_L_161 : LkV "LightPropagatorLaw" 161 yX6_save := ⟨mgw 555 (by decide +kernel) (by decide +kernel), mgw 556 (by decide +kernel) (by decide +kernel), mgw 42 (by decide +kernel) (by decide +kernel), mgw 557 (by decide +kernel) (by decide +kernel)⟩
theorem lk_L_164 : LkV "LightPropagatorLaw" 164 yX7_save := ⟨mgw 923 (by decide +kernel) (by decide +kernel), mgw 924 (by decide +kernel) (by decide +kernel), mgw 48 (by decide +kernel) (by decide +kernel), mgw 925 (by decide +kernel) (by decide +kernel)⟩
theorem lk_L_165 : LkV "LightPropagatorLaw" 165 yX6_restore := ⟨mgw 564 (by decide +kernel) (by decide +kernel), mgw 565 (by decide +kernel) (by decide +kernel), mgw 42 (by decide +kernel) (by decide +kernel), mgw 566 (by decide +kernel) (by decide +kernel)⟩
theorem lk_L_168 : LkV "LightPropagatorLaw" 168 yX7_restore := ⟨mgw 931 (by decide +kernel) (by decide +kernel), mgw 932 (by decide +kernel) (by decide +kernel), mgw 48 (by decide +kernel) (by decide +kernel), mgw 933 (by decide +kernel) (by decide +kernel)⟩
theorem lk_X1_83 : LkS RX1 83 yX1_make := ⟨mgw 404 (by decide +kernel) (by decide +kernel), mgw 405 (by decide +kernel) (by decide +kernel), mgw 47 (by decide +kernel) (by decide +kernel)⟩
theorem lk_X1_61 : LkS RX1 61 yX1_isRefused := ⟨mgw 392 (by decide +kernel) (by decide +kernel), mgw 393 (by decide +kernel) (by decide +kernel), mgw 47 (by decide +kernel) (by decide +kernel)⟩
theorem lk_X1_65 : LkS RX1 65 yX2_has := ⟨mgw 395 (by decide +kernel) (by decide +kernel), mgw 224 (by decide +kernel) (by decide +kernel), mgw 50 (by decide +kernel) (by decide +kernel)⟩
theorem lk_X1_71 : LkN RX1 71 yX6_isType "LightPropagator" := ⟨mnw 396 (by decide +kernel), mgw 227 (by decide +kernel) (by decide +kernel), mgw 42 (by decide +kernel) (by decide +kernel)⟩
theorem lk_X1_74 : LkN RX1 74 yX6_isChannel "LightPropagator" := ⟨mnw 397 (by decide +kernel), mgw 338 (by decide +kernel) (by decide +kernel), mgw 42 (by decide +kernel) (by decide +kernel)⟩
theorem lk_X1_77 : LkN RX1 77 yX6_isStrength "LightPropagator" := ⟨mnw 398 (by decide +kernel), mgw 341 (by decide +kernel) (by decide +kernel), mgw 42 (by decide +kernel) (by decide +kernel)⟩
theorem lk_X1_80 : LkN RX1 80 yX6_isColor "LightPropagator" := ⟨mnw 399 (by decide +kernel), mgw 348 (by decide +kernel) (by decide +kernel), mgw 42 (by decide +kernel) (by decide +kernel)⟩
theorem lk_X1_92 : LkS RX1 92 yX2_cell := ⟨mgw 407 (by decide +kernel) (by decide +kernel), mgw 230 (by decide +kernel) (by decide +kernel), mgw 50 (by decide +kernel) (by decide +kernel)⟩
theorem lk_X1_96 : LkV RX1 96 yX5_setBox := ⟨mgw 408 (by decide +kernel) (by decide +kernel), mgw 328 (by decide +kernel) (by decide +kernel), mgw 43 (by decide +kernel) (by decide +kernel), mgw 329 (by decide +kernel) (by decide +kernel)⟩
theorem lk_X1_37 : LkV RX1 37 yX1_parseCommand := ⟨mgw 366 (by decide +kernel) (by decide +kernel), mgw 368 (by decide +kernel) (by decide +kernel), mgw 47 (by decide +kernel) (by decide +kernel), mgw 7 (by decide +kernel) (by decide +kernel)⟩
theorem lk_X1_41 : LkV RX1 41 yX1_skip := ⟨mgw 376 (by decide +kernel) (by decide +kernel), mgw 378 (by decide +kernel) (by decide +kernel), mgw 47 (by decide +kernel) (by decide +kernel), mgw 8 (by decide +kernel) (by decide +kernel)⟩
theorem lk_X1_45 : LkS RX1 45 yX1_countOfNumbers := ⟨mgw 370 (by decide +kernel) (by decide +kernel), mgw 371 (by decide +kernel) (by decide +kernel), mgw 47 (by decide +kernel) (by decide +kernel)⟩
theorem lk_X1_49 : LkS RX1 49 yX1_lastSeparator := ⟨mgw 373 (by decide +kernel) (by decide +kernel), mgw 374 (by decide +kernel) (by decide +kernel), mgw 47 (by decide +kernel) (by decide +kernel)⟩
theorem lk_X1_53 : LkV RX1 53 yX1_parseNumber := ⟨mgw 380 (by decide +kernel) (by decide +kernel), mgw 382 (by decide +kernel) (by decide +kernel), mgw 47 (by decide +kernel) (by decide +kernel), mgw 9 (by decide +kernel) (by decide +kernel)⟩
theorem lk_X1_57 : LkV RX1 57 yX1_isDigitNext := ⟨mgw 384 (by decide +kernel) (by decide +kernel), mgw 386 (by decide +kernel) (by decide +kernel), mgw 47 (by decide +kernel) (by decide +kernel), mgw 10 (by decide +kernel) (by decide +kernel)⟩
theorem lk_X2_9 : LkS RX2 9 yX2_z := ⟨mgw 296 (by decide +kernel) (by decide +kernel), mgw 297 (by decide +kernel) (by decide +kernel), mgw 50 (by decide +kernel) (by decide +kernel)⟩
theorem lk_X2_18 : LkS RX2 18 yX2_x := ⟨mgw 290 (by decide +kernel) (by decide +kernel), mgw 291 (by decide +kernel) (by decide +kernel), mgw 50 (by decide +kernel) (by decide +kernel)⟩
theorem lk_X2_15 : LkS RX2 15 yX2_y := ⟨mgw 293 (by decide +kernel) (by decide +kernel), mgw 294 (by decide +kernel) (by decide +kernel), mgw 50 (by decide +kernel) (by decide +kernel)⟩
theorem lk_X3_25 : LkV RX3 25 yX5_copyFrom := ⟨mgw 240 (by decide +kernel) (by decide +kernel), mgw 241 (by decide +kernel) (by decide +kernel), mgw 43 (by decide +kernel) (by decide +kernel), mgw 242 (by decide +kernel) (by decide +kernel)⟩
theorem lk_X4_36 : LkV RX4 36 yX5_emissionAt := ⟨mgw 279 (by decide +kernel) (by decide +kernel), mgw 280 (by decide +kernel) (by decide +kernel), mgw 43 (by decide +kernel) (by decide +kernel), mgw 281 (by decide +kernel) (by decide +kernel)⟩
theorem lk_X4_42 : LkV RX4 42 yX4_enter := ⟨mgw 271 (by decide +kernel) (by decide +kernel), mgw 273 (by decide +kernel) (by decide +kernel), mgw 44 (by decide +kernel) (by decide +kernel), mgw 3 (by decide +kernel) (by decide +kernel)⟩
theorem lk_X4_46 : LkS RX4 46 yX2_cell := ⟨mgw 266 (by decide +kernel) (by decide +kernel), mgw 230 (by decide +kernel) (by decide +kernel), mgw 50 (by decide +kernel) (by decide +kernel)⟩
theorem lk_X4_52 : LkV RX4 52 yX5_lossAt := ⟨mgw 267 (by decide +kernel) (by decide +kernel), mgw 268 (by decide +kernel) (by decide +kernel), mgw 43 (by decide +kernel) (by decide +kernel), mgw 269 (by decide +kernel) (by decide +kernel)⟩
theorem lk_X4_25 : LkV RX4 25 yX4_enterSun := ⟨mgw 262 (by decide +kernel) (by decide +kernel), mgw 264 (by decide +kernel) (by decide +kernel), mgw 44 (by decide +kernel) (by decide +kernel), mgw 2 (by decide +kernel) (by decide +kernel)⟩
theorem lk_X4_29 : LkV RX4 29 yX4_enterEmissions := ⟨mgw 275 (by decide +kernel) (by decide +kernel), mgw 277 (by decide +kernel) (by decide +kernel), mgw 44 (by decide +kernel) (by decide +kernel), mgw 4 (by decide +kernel) (by decide +kernel)⟩
theorem lk_X4_33 : LkV RX4 33 yX4_give := ⟨mgw 283 (by decide +kernel) (by decide +kernel), mgw 285 (by decide +kernel) (by decide +kernel), mgw 44 (by decide +kernel) (by decide +kernel), mgw 5 (by decide +kernel) (by decide +kernel)⟩
theorem lk_X4_55 : LkS RX4 55 yX2_neighbor := ⟨mgw 287 (by decide +kernel) (by decide +kernel), mgw 288 (by decide +kernel) (by decide +kernel), mgw 50 (by decide +kernel) (by decide +kernel)⟩
theorem lk_X5_27 : LkS RX5 27 yX2_x := ⟨mgw 331 (by decide +kernel) (by decide +kernel), mgw 291 (by decide +kernel) (by decide +kernel), mgw 50 (by decide +kernel) (by decide +kernel)⟩
theorem lk_X5_33 : LkS RX5 33 yX2_y := ⟨mgw 332 (by decide +kernel) (by decide +kernel), mgw 294 (by decide +kernel) (by decide +kernel), mgw 50 (by decide +kernel) (by decide +kernel)⟩
theorem lk_X6_134 : LkV RX6 134 yX1_add := ⟨mgw 354 (by decide +kernel) (by decide +kernel), mgw 355 (by decide +kernel) (by decide +kernel), mgw 47 (by decide +kernel) (by decide +kernel), mgw 356 (by decide +kernel) (by decide +kernel)⟩
theorem lk_X6_119 : LkS RX6 119 yX6_isChannel := ⟨mgw 337 (by decide +kernel) (by decide +kernel), mgw 338 (by decide +kernel) (by decide +kernel), mgw 42 (by decide +kernel) (by decide +kernel)⟩
theorem lk_X6_166 : LkS RX6 166 yX2_number := ⟨mgw 468 (by decide +kernel) (by decide +kernel), mgw 469 (by decide +kernel) (by decide +kernel), mgw 50 (by decide +kernel) (by decide +kernel)⟩
theorem lk_X6_157 : LkV RX6 157 yX6_packedLights := ⟨mgw 441 (by decide +kernel) (by decide +kernel), mgw 443 (by decide +kernel) (by decide +kernel), mgw 42 (by decide +kernel) (by decide +kernel), mgw 11 (by decide +kernel) (by decide +kernel)⟩
theorem lk_X6_179 : LkS RX6 179 yX6_isChunk := ⟨mgw 502 (by decide +kernel) (by decide +kernel), mgw 503 (by decide +kernel) (by decide +kernel), mgw 42 (by decide +kernel) (by decide +kernel)⟩
theorem lk_X6_169 : LkS RX6 169 yX2_chunk := ⟨mgw 483 (by decide +kernel) (by decide +kernel), mgw 484 (by decide +kernel) (by decide +kernel), mgw 50 (by decide +kernel) (by decide +kernel)⟩
theorem lk_X6_95 : LkV RX6 95 yX3_push := ⟨mgw 236 (by decide +kernel) (by decide +kernel), mgw 237 (by decide +kernel) (by decide +kernel), mgw 46 (by decide +kernel) (by decide +kernel), mgw 238 (by decide +kernel) (by decide +kernel)⟩
theorem lk_X6_106 : LkV RX6 106 yX0_makeEdits := ⟨mgw 311 (by decide +kernel) (by decide +kernel), mgw 312 (by decide +kernel) (by decide +kernel), mgw 45 (by decide +kernel) (by decide +kernel), mgw 313 (by decide +kernel) (by decide +kernel)⟩
theorem lk_X6_109 : LkV RX6 109 yX0_leave := ⟨mgw 315 (by decide +kernel) (by decide +kernel), mgw 316 (by decide +kernel) (by decide +kernel), mgw 45 (by decide +kernel) (by decide +kernel), mgw 317 (by decide +kernel) (by decide +kernel)⟩
theorem lk_X6_102 : LkV RX6 102 yX6_relight := ⟨mgw 250 (by decide +kernel) (by decide +kernel), mgw 252 (by decide +kernel) (by decide +kernel), mgw 42 (by decide +kernel) (by decide +kernel), mgw 0 (by decide +kernel) (by decide +kernel)⟩
theorem lk_X6_163 : LkV RX6 163 yX6_giverOf := ⟨mgw 460 (by decide +kernel) (by decide +kernel), mgw 462 (by decide +kernel) (by decide +kernel), mgw 42 (by decide +kernel) (by decide +kernel), mgw 13 (by decide +kernel) (by decide +kernel)⟩
theorem lk_X6_122 : LkS RX6 122 yX6_isStrength := ⟨mgw 340 (by decide +kernel) (by decide +kernel), mgw 341 (by decide +kernel) (by decide +kernel), mgw 42 (by decide +kernel) (by decide +kernel)⟩
theorem lk_X6_182 : LkV RX6 182 yX6_brightestColor := ⟨mgw 513 (by decide +kernel) (by decide +kernel), mgw 515 (by decide +kernel) (by decide +kernel), mgw 42 (by decide +kernel) (by decide +kernel), mgw 14 (by decide +kernel) (by decide +kernel)⟩
theorem lk_X6_80 : LkS RX6 80 yX6_isType := ⟨mgw 226 (by decide +kernel) (by decide +kernel), mgw 227 (by decide +kernel) (by decide +kernel), mgw 42 (by decide +kernel) (by decide +kernel)⟩
theorem lk_X6_128 : LkS RX6 128 yX6_isColor := ⟨mgw 347 (by decide +kernel) (by decide +kernel), mgw 348 (by decide +kernel) (by decide +kernel), mgw 42 (by decide +kernel) (by decide +kernel)⟩
theorem lk_X6_74 : LkS RX6 74 yX2_has := ⟨mgw 223 (by decide +kernel) (by decide +kernel), mgw 224 (by decide +kernel) (by decide +kernel), mgw 50 (by decide +kernel) (by decide +kernel)⟩
theorem lk_X6_84 : LkS RX6 84 yX2_cell := ⟨mgw 229 (by decide +kernel) (by decide +kernel), mgw 230 (by decide +kernel) (by decide +kernel), mgw 50 (by decide +kernel) (by decide +kernel)⟩
theorem lk_X6_115 : LkV RX6 115 yX5_setBox := ⟨mgw 327 (by decide +kernel) (by decide +kernel), mgw 328 (by decide +kernel) (by decide +kernel), mgw 43 (by decide +kernel) (by decide +kernel), mgw 329 (by decide +kernel) (by decide +kernel)⟩
theorem lk_X6_160 : LkV RX6 160 yX6_originOf := ⟨mgw 449 (by decide +kernel) (by decide +kernel), mgw 451 (by decide +kernel) (by decide +kernel), mgw 42 (by decide +kernel) (by decide +kernel), mgw 12 (by decide +kernel) (by decide +kernel)⟩
theorem lk_X6_185 : LkS RX6 185 yX2_neighbor := ⟨mgw 455 (by decide +kernel) (by decide +kernel), mgw 288 (by decide +kernel) (by decide +kernel), mgw 50 (by decide +kernel) (by decide +kernel)⟩
theorem lk_X6_172 : LkV RX6 172 yX4_find := ⟨mgw 258 (by decide +kernel) (by decide +kernel), mgw 259 (by decide +kernel) (by decide +kernel), mgw 44 (by decide +kernel) (by decide +kernel), mgw 260 (by decide +kernel) (by decide +kernel)⟩
theorem lk_X6_176 : LkV RX6 176 yX5_lossAt := ⟨mgw 454 (by decide +kernel) (by decide +kernel), mgw 268 (by decide +kernel) (by decide +kernel), mgw 43 (by decide +kernel) (by decide +kernel), mgw 269 (by decide +kernel) (by decide +kernel)⟩
theorem lk_X6_216 : LkV RX6 216 yX5_emissionAt := ⟨mgw 453 (by decide +kernel) (by decide +kernel), mgw 280 (by decide +kernel) (by decide +kernel), mgw 43 (by decide +kernel) (by decide +kernel), mgw 281 (by decide +kernel) (by decide +kernel)⟩
theorem lk_X6_138 : LkV RX6 138 yX1_parse := ⟨mgw 362 (by decide +kernel) (by decide +kernel), mgw 363 (by decide +kernel) (by decide +kernel), mgw 47 (by decide +kernel) (by decide +kernel), mgw 364 (by decide +kernel) (by decide +kernel)⟩
theorem lk_X6_141 : LkV RX6 141 yX1_firstRefused := ⟨mgw 388 (by decide +kernel) (by decide +kernel), mgw 389 (by decide +kernel) (by decide +kernel), mgw 47 (by decide +kernel) (by decide +kernel), mgw 390 (by decide +kernel) (by decide +kernel)⟩
theorem lk_X6_147 : LkV RX6 147 yX1_execute := ⟨mgw 400 (by decide +kernel) (by decide +kernel), mgw 401 (by decide +kernel) (by decide +kernel), mgw 47 (by decide +kernel) (by decide +kernel), mgw 402 (by decide +kernel) (by decide +kernel)⟩
theorem lk_X6_188 : LkV RX6 188 yX6_leaveRegion := ⟨mgw 536 (by decide +kernel) (by decide +kernel), mgw 538 (by decide +kernel) (by decide +kernel), mgw 42 (by decide +kernel) (by decide +kernel), mgw 15 (by decide +kernel) (by decide +kernel)⟩
theorem lk_X6_204 : LkV RX6 204 yX6_clearEffect := ⟨mgw 254 (by decide +kernel) (by decide +kernel), mgw 256 (by decide +kernel) (by decide +kernel), mgw 42 (by decide +kernel) (by decide +kernel), mgw 1 (by decide +kernel) (by decide +kernel)⟩
theorem lk_X6_207 : LkV RX6 207 yX6_takeTrial := ⟨mgw 299 (by decide +kernel) (by decide +kernel), mgw 301 (by decide +kernel) (by decide +kernel), mgw 42 (by decide +kernel) (by decide +kernel), mgw 6 (by decide +kernel) (by decide +kernel)⟩
theorem lk_X6_198 : LkV RX6 198 yX5_copyFrom := ⟨mgw 559 (by decide +kernel) (by decide +kernel), mgw 241 (by decide +kernel) (by decide +kernel), mgw 43 (by decide +kernel) (by decide +kernel), mgw 242 (by decide +kernel) (by decide +kernel)⟩
theorem lk_X6_201 : LkV RX6 201 yX5_countFilled := ⟨mgw 560 (by decide +kernel) (by decide +kernel), mgw 561 (by decide +kernel) (by decide +kernel), mgw 43 (by decide +kernel) (by decide +kernel), mgw 562 (by decide +kernel) (by decide +kernel)⟩
theorem lk_X6_91 : LkV RX6 91 yX0_collect := ⟨mgw 232 (by decide +kernel) (by decide +kernel), mgw 233 (by decide +kernel) (by decide +kernel), mgw 45 (by decide +kernel) (by decide +kernel), mgw 234 (by decide +kernel) (by decide +kernel)⟩
theorem lk_X6_154 : LkV RX6 154 yX3_pop := ⟨mgw 417 (by decide +kernel) (by decide +kernel), mgw 418 (by decide +kernel) (by decide +kernel), mgw 46 (by decide +kernel) (by decide +kernel), mgw 419 (by decide +kernel) (by decide +kernel)⟩
theorem lk_X7_57 : LkS RX7 57 yX7_in := ⟨mgw 618 (by decide +kernel) (by decide +kernel), mgw 619 (by decide +kernel) (by decide +kernel), mgw 48 (by decide +kernel) (by decide +kernel)⟩
theorem lk_X7_177 : LkV RX7 177 yX7_lightOf := ⟨mgw 810 (by decide +kernel) (by decide +kernel), mgw 812 (by decide +kernel) (by decide +kernel), mgw 48 (by decide +kernel) (by decide +kernel), mgw 34 (by decide +kernel) (by decide +kernel)⟩
theorem lk_X7_192 : LkS RX7 192 yX7_code := ⟨mgw 842 (by decide +kernel) (by decide +kernel), mgw 843 (by decide +kernel) (by decide +kernel), mgw 48 (by decide +kernel) (by decide +kernel)⟩
theorem lk_X7_109 : LkV RX7 109 yX7_lay := ⟨mgw 578 (by decide +kernel) (by decide +kernel), mgw 580 (by decide +kernel) (by decide +kernel), mgw 48 (by decide +kernel) (by decide +kernel), mgw 17 (by decide +kernel) (by decide +kernel)⟩
theorem lk_X7_116 : LkV RX7 116 yX7_effectMany := ⟨mgw 722 (by decide +kernel) (by decide +kernel), mgw 724 (by decide +kernel) (by decide +kernel), mgw 48 (by decide +kernel) (by decide +kernel), mgw 26 (by decide +kernel) (by decide +kernel)⟩
theorem lk_X7_180 : LkV RX7 180 yX7_lightsOf := ⟨mgw 818 (by decide +kernel) (by decide +kernel), mgw 820 (by decide +kernel) (by decide +kernel), mgw 48 (by decide +kernel) (by decide +kernel), mgw 35 (by decide +kernel) (by decide +kernel)⟩
theorem lk_X7_61 : LkS RX7 61 yX7_zOf := ⟨mgw 612 (by decide +kernel) (by decide +kernel), mgw 613 (by decide +kernel) (by decide +kernel), mgw 48 (by decide +kernel) (by decide +kernel)⟩
theorem lk_X7_68 : LkS RX7 68 yX7_xOf := ⟨mgw 609 (by decide +kernel) (by decide +kernel), mgw 610 (by decide +kernel) (by decide +kernel), mgw 48 (by decide +kernel) (by decide +kernel)⟩
theorem lk_X7_195 : LkS RX7 195 yX7_chunkOf := ⟨mgw 857 (by decide +kernel) (by decide +kernel), mgw 858 (by decide +kernel) (by decide +kernel), mgw 48 (by decide +kernel) (by decide +kernel)⟩
theorem lk_X7_134 : LkV RX7 134 yX7_keep := ⟨mgw 714 (by decide +kernel) (by decide +kernel), mgw 716 (by decide +kernel) (by decide +kernel), mgw 48 (by decide +kernel) (by decide +kernel), mgw 24 (by decide +kernel) (by decide +kernel)⟩
theorem lk_X7_137 : LkV RX7 137 yX7_changed := ⟨mgw 718 (by decide +kernel) (by decide +kernel), mgw 720 (by decide +kernel) (by decide +kernel), mgw 48 (by decide +kernel) (by decide +kernel), mgw 25 (by decide +kernel) (by decide +kernel)⟩
theorem lk_X7_65 : LkS RX7 65 yX7_yOf := ⟨mgw 594 (by decide +kernel) (by decide +kernel), mgw 595 (by decide +kernel) (by decide +kernel), mgw 48 (by decide +kernel) (by decide +kernel)⟩
theorem lk_X7_183 : LkV RX7 183 yX7_originOf := ⟨mgw 826 (by decide +kernel) (by decide +kernel), mgw 828 (by decide +kernel) (by decide +kernel), mgw 48 (by decide +kernel) (by decide +kernel), mgw 36 (by decide +kernel) (by decide +kernel)⟩
theorem lk_X7_100 : LkS RX7 100 yX7_next := ⟨mgw 606 (by decide +kernel) (by decide +kernel), mgw 607 (by decide +kernel) (by decide +kernel), mgw 48 (by decide +kernel) (by decide +kernel)⟩
theorem lk_X7_123 : LkS RX7 123 yX7_isType := ⟨mgw 707 (by decide +kernel) (by decide +kernel), mgw 708 (by decide +kernel) (by decide +kernel), mgw 48 (by decide +kernel) (by decide +kernel)⟩
theorem lk_X7_81 : LkV RX7 81 yX7_typeOf := ⟨mgw 586 (by decide +kernel) (by decide +kernel), mgw 588 (by decide +kernel) (by decide +kernel), mgw 48 (by decide +kernel) (by decide +kernel), mgw 19 (by decide +kernel) (by decide +kernel)⟩
theorem lk_X7_74 : LkS RX7 74 yX7_cell := ⟨mgw 621 (by decide +kernel) (by decide +kernel), mgw 622 (by decide +kernel) (by decide +kernel), mgw 48 (by decide +kernel) (by decide +kernel)⟩
theorem lk_X7_140 : LkV RX7 140 yX7_lays := ⟨mgw 742 (by decide +kernel) (by decide +kernel), mgw 744 (by decide +kernel) (by decide +kernel), mgw 48 (by decide +kernel) (by decide +kernel), mgw 27 (by decide +kernel) (by decide +kernel)⟩
theorem lk_X7_71 : LkS RX7 71 yX7_isCell := ⟨mgw 615 (by decide +kernel) (by decide +kernel), mgw 616 (by decide +kernel) (by decide +kernel), mgw 48 (by decide +kernel) (by decide +kernel)⟩
theorem lk_X7_54 : LkV RX7 54 yX7_layAll := ⟨mgw 574 (by decide +kernel) (by decide +kernel), mgw 576 (by decide +kernel) (by decide +kernel), mgw 48 (by decide +kernel) (by decide +kernel), mgw 16 (by decide +kernel) (by decide +kernel)⟩
theorem lk_X7_103 : LkV RX7 103 yX7_emissionOf := ⟨mgw 582 (by decide +kernel) (by decide +kernel), mgw 584 (by decide +kernel) (by decide +kernel), mgw 48 (by decide +kernel) (by decide +kernel), mgw 18 (by decide +kernel) (by decide +kernel)⟩
theorem lk_X7_106 : LkV RX7 106 yX7_laySun := ⟨mgw 590 (by decide +kernel) (by decide +kernel), mgw 592 (by decide +kernel) (by decide +kernel), mgw 48 (by decide +kernel) (by decide +kernel), mgw 20 (by decide +kernel) (by decide +kernel)⟩
theorem lk_X7_93 : LkV RX7 93 yX7_lossOf := ⟨mgw 597 (by decide +kernel) (by decide +kernel), mgw 599 (by decide +kernel) (by decide +kernel), mgw 48 (by decide +kernel) (by decide +kernel), mgw 21 (by decide +kernel) (by decide +kernel)⟩
theorem lk_X7_96 : LkV RX7 96 yX7_raise := ⟨mgw 601 (by decide +kernel) (by decide +kernel), mgw 603 (by decide +kernel) (by decide +kernel), mgw 48 (by decide +kernel) (by decide +kernel), mgw 22 (by decide +kernel) (by decide +kernel)⟩
theorem lk_X7_198 : LkV RX7 198 yX7_layWith := ⟨mgw 864 (by decide +kernel) (by decide +kernel), mgw 866 (by decide +kernel) (by decide +kernel), mgw 48 (by decide +kernel) (by decide +kernel), mgw 38 (by decide +kernel) (by decide +kernel)⟩
theorem lk_X7_156 : LkV RX7 156 yX7_here := ⟨mgw 766 (by decide +kernel) (by decide +kernel), mgw 768 (by decide +kernel) (by decide +kernel), mgw 48 (by decide +kernel) (by decide +kernel), mgw 29 (by decide +kernel) (by decide +kernel)⟩
theorem lk_X7_168 : LkV RX7 168 yX7_readOne := ⟨mgw 762 (by decide +kernel) (by decide +kernel), mgw 764 (by decide +kernel) (by decide +kernel), mgw 48 (by decide +kernel) (by decide +kernel), mgw 28 (by decide +kernel) (by decide +kernel)⟩
theorem lk_X7_171 : LkV RX7 171 yX7_isGood := ⟨mgw 778 (by decide +kernel) (by decide +kernel), mgw 780 (by decide +kernel) (by decide +kernel), mgw 48 (by decide +kernel) (by decide +kernel), mgw 32 (by decide +kernel) (by decide +kernel)⟩
theorem lk_X7_174 : LkV RX7 174 yX7_execute := ⟨mgw 782 (by decide +kernel) (by decide +kernel), mgw 784 (by decide +kernel) (by decide +kernel), mgw 48 (by decide +kernel) (by decide +kernel), mgw 33 (by decide +kernel) (by decide +kernel)⟩
theorem lk_X7_162 : LkV RX7 162 yX7_take := ⟨mgw 770 (by decide +kernel) (by decide +kernel), mgw 772 (by decide +kernel) (by decide +kernel), mgw 48 (by decide +kernel) (by decide +kernel), mgw 30 (by decide +kernel) (by decide +kernel)⟩
theorem lk_X7_165 : LkV RX7 165 yX7_number := ⟨mgw 774 (by decide +kernel) (by decide +kernel), mgw 776 (by decide +kernel) (by decide +kernel), mgw 48 (by decide +kernel) (by decide +kernel), mgw 31 (by decide +kernel) (by decide +kernel)⟩
theorem lk_X7_202 : LkV RX7 202 yX7_takeRegion := ⟨mgw 904 (by decide +kernel) (by decide +kernel), mgw 906 (by decide +kernel) (by decide +kernel), mgw 48 (by decide +kernel) (by decide +kernel), mgw 39 (by decide +kernel) (by decide +kernel)⟩
theorem lk_X7_214 : LkV RX7 214 yX7_blocks := ⟨mgw 927 (by decide +kernel) (by decide +kernel), mgw 929 (by decide +kernel) (by decide +kernel), mgw 48 (by decide +kernel) (by decide +kernel), mgw 40 (by decide +kernel) (by decide +kernel)⟩
theorem lk_X7_131 : LkV RX7 131 yX7_collect := ⟨mgw 710 (by decide +kernel) (by decide +kernel), mgw 712 (by decide +kernel) (by decide +kernel), mgw 48 (by decide +kernel) (by decide +kernel), mgw 23 (by decide +kernel) (by decide +kernel)⟩
theorem lk_X7_189 : LkV RX7 189 yX7_goBack := ⟨mgw 834 (by decide +kernel) (by decide +kernel), mgw 836 (by decide +kernel) (by decide +kernel), mgw 48 (by decide +kernel) (by decide +kernel), mgw 37 (by decide +kernel) (by decide +kernel)⟩
theorem lc_X6_192 : Cond.constantLong RX6 192 (17) ∈ gw := by decide +kernel
theorem lc_X6_194 : Cond.constantLong RX6 194 (31) ∈ gw := by decide +kernel
theorem lc_X6_196 : Cond.constantLong RX6 196 (8) ∈ gw := by decide +kernel
theorem lc_X7_205 : Cond.constantLong RX7 205 (17) ∈ gw := by decide +kernel
theorem lc_X7_207 : Cond.constantLong RX7 207 (31) ∈ gw := by decide +kernel
theorem lc_X7_209 : Cond.constantLong RX7 209 (8) ∈ gw := by decide +kernel
end
section
theorem lk_X3_29 : LkM RX3 29 Lib.Math.min.name Lib.Math.min.code := ⟨mgw 247 (by decide +kernel) (by decide +kernel), mgw 248 (by decide +kernel) (by decide +kernel), mgw 49 (by decide +kernel) (by decide +kernel), mgw 249 (by decide +kernel) (by decide +kernel)⟩
theorem lk_X5_21 : LkA RX5 21 := ⟨mgw 244 (by decide +kernel) (by decide +kernel), mgw 246 (by decide +kernel) (by decide +kernel), mgw 245 (by decide +kernel) (by decide +kernel), mgw 51 (by decide +kernel) (by decide +kernel)⟩
theorem lk_X6_211 : LkM RX6 211 Lib.Math.max.name Lib.Math.max.code := ⟨mgw 517 (by decide +kernel) (by decide +kernel), mgw 518 (by decide +kernel) (by decide +kernel), mgw 49 (by decide +kernel) (by decide +kernel), mgw 519 (by decide +kernel) (by decide +kernel)⟩
theorem lk_X7_87 : LkM RX7 87 Lib.Math.max.name Lib.Math.max.code := ⟨mgw 605 (by decide +kernel) (by decide +kernel), mgw 518 (by decide +kernel) (by decide +kernel), mgw 49 (by decide +kernel) (by decide +kernel), mgw 519 (by decide +kernel) (by decide +kernel)⟩
end
section
/-! Cells, ranges, truth as numbers. -/
def cX (k : Nat) : Nat := k % 12
def cY (k : Nat) : Nat := k / 12 % 8
def cZ (k : Nat) : Nat := k / 96
def cel (a b c : Nat) : Nat := 96 * c + 12 * b + a
def cod (k : Nat) : Nat := 100 * cZ k + 12 * cY k + cX k
def chk (k : Nat) : Nat := 3 * (cZ k / 4) + cX k / 4
def nbr (k : Nat) : Nat → Option Nat
  | 0 => if 0 < cX k then some (k - 1) else none
  | 1 => if cX k < 11 then some (k + 1) else none
  | 2 => if 0 < cY k then some (k - 12) else none
  | 3 => if cY k < 7 then some (k + 12) else none
  | 4 => if 0 < cZ k then some (k - 96) else none
  | 5 => if cZ k < 11 then some (k + 96) else none
  | _ => none
def oI : Option Nat → Int32
  | some j => nI j
  | none => -1
theorem nbr_lt {k d m : Nat} (hk : k < 1152) (h : nbr k d = some m) : m < 1152 := by
  unfold nbr cX cY cZ at h
  split at h <;> first | (cases h; done) | (split at h <;> first | (cases h; done) | (cases h; omega))
theorem cX_lt (k : Nat) : cX k < 12 := Nat.mod_lt _ (by decide)
theorem cY_lt (k : Nat) : cY k < 8 := Nat.mod_lt _ (by decide)
theorem cZ_lt {k : Nat} (h : k < 1152) : cZ k < 12 := by unfold cZ; omega
theorem cel_lt {a b c : Nat} (ha : a < 12) (hb : b < 8) (hc : c < 12) : cel a b c < 1152 := by unfold cel; omega
theorem cX_cel {a b c : Nat} (ha : a < 12) (hb : b < 8) : cX (cel a b c) = a := by unfold cX cel; omega
theorem cY_cel {a b c : Nat} (ha : a < 12) (hb : b < 8) : cY (cel a b c) = b := by unfold cY cel; omega
theorem cZ_cel {a b c : Nat} (ha : a < 12) (hb : b < 8) : cZ (cel a b c) = c := by unfold cZ cel; omega
theorem cel_c {k : Nat} (h : k < 1152) : cel (cX k) (cY k) (cZ k) = k := by unfold cel cX cY cZ; omega
noncomputable def bP (P : Prop) : Int32 := @ite _ P (Classical.propDecidable P) (nI 1) (nI 0)
theorem bP_t {P : Prop} (h : P) : nI 1 = bP P := by unfold bP; rw [if_pos h]
theorem bP_f {P : Prop} (h : ¬ P) : nI 0 = bP P := by unfold bP; rw [if_neg h]
theorem bP_nar {P : Prop} : narrow .boolean (.int (bP P)) = .int (bP P) := by
  by_cases h : P
  · rw [← bP_t h]; rfl
  · rw [← bP_f h]; rfl
theorem bP_fit {P : Prop} : fits .boolean (.int (bP P)) = true := by
  by_cases h : P
  · rw [← bP_t h]; rfl
  · rw [← bP_f h]; rfl
theorem bP_c {P Q : Prop} (h : P ↔ Q) : bP P = bP Q := by rw [propext h]
theorem bP_0 {P : Prop} : bP P = 0 ↔ ¬ P := by
  by_cases h : P
  · rw [← bP_t h]; exact ⟨fun q => absurd q (by decide), fun q => absurd h q⟩
  · rw [← bP_f h]; exact ⟨fun _ => h, fun _ => rfl⟩
noncomputable def pI (P : Prop) (a b : Int32) : Int32 := @ite _ P (Classical.propDecidable P) a b
theorem pI_t {P : Prop} {a b : Int32} (h : P) : pI P a b = a := by unfold pI; rw [if_pos h]
theorem pI_f {P : Prop} {a b : Int32} (h : ¬ P) : pI P a b = b := by unfold pI; rw [if_neg h]
section GOB
variable {obj : Nat → Lay} {N : Nat} {cc : ByteArray} {nL : Nat} {own : String} {fr lo : Nat} {X : GX} {pc : Nat} {lv : List (Option Value)} {st : List Value} {σ : Mem} {P : Prop}
theorem go_if_eqB (C : OkX obj N cc nL own fr lo X) {off : Int} (tgt : Nat) (d : decode cc pc = .ok (.ifCond .eq off, 3)) (ht : (pc : Int) + off = (tgt : Int)) (kt : ¬ P → Go obj N X tgt lv st σ) (kf : P → Go obj N X (pc + 3) lv st σ) : Go obj N X pc lv (.int (bP P) :: st) σ := go_if_eq C tgt d ht (fun h => kt (bP_0.mp h)) (fun h => kf (Classical.byContradiction fun q => h (bP_0.mpr q)))
theorem go_if_neB (C : OkX obj N cc nL own fr lo X) {off : Int} (tgt : Nat) (d : decode cc pc = .ok (.ifCond .ne off, 3)) (ht : (pc : Int) + off = (tgt : Int)) (kt : P → Go obj N X tgt lv st σ) (kf : ¬ P → Go obj N X (pc + 3) lv st σ) : Go obj N X pc lv (.int (bP P) :: st) σ := go_if_ne C tgt d ht (fun h => kt (Classical.byContradiction fun q => h (bP_0.mpr q))) (fun h => kf (bP_0.mp h))
end GOB
/-- x is one of 0 .. n - 1 -/
def rng (n : Nat) (x : Int32) : Prop := ¬ x < 0 ∧ ¬ nI n ≤ x
theorem rng_nat {n : Nat} {x : Int32} (hn : n < 2 ^ 31) (h : rng n x) : ∃ a : Nat, a < n ∧ x = nI a := by
  obtain ⟨h1, h2⟩ := h
  obtain ⟨a, ha, rfl⟩ := nI_of h1
  refine ⟨a, ?_, rfl⟩
  apply Classical.byContradiction
  intro q
  exact h2 (nI_le (by omega) ha)
theorem rng_nI {n a : Nat} (hn : n < 2 ^ 31) (ha : a < n) : rng n (nI a) := ⟨nI_pos (by omega), nI_ge ha hn⟩
theorem rng_iff {n a : Nat} (hn : n < 2 ^ 31) (ha : a < 2 ^ 31) : rng n (nI a) ↔ a < n := ⟨fun h => by
  obtain ⟨b, hb, e⟩ := rng_nat hn h
  rw [(nI_eq ha (by omega)).mp e]; exact hb, fun h => rng_nI hn h⟩
def isC (x y z : Int32) : Prop := rng 12 x ∧ rng 8 y ∧ rng 12 z
theorem isC_nI {a b c : Nat} (ha : a < 12) (hb : b < 8) (hc : c < 12) : isC (nI a) (nI b) (nI c) := ⟨rng_nI (by decide) ha, rng_nI (by decide) hb, rng_nI (by decide) hc⟩
def ixC (x y z : Int32) : Nat := cel x.toNatClampNeg y.toNatClampNeg z.toNatClampNeg
theorem ixC_nI {a b c : Nat} (ha : a < 12) (hb : b < 8) (hc : c < 12) : ixC (nI a) (nI b) (nI c) = cel a b c := by
  unfold ixC; rw [nI_clamp (by omega), nI_clamp (by omega), nI_clamp (by omega)]
end
section
set_option maxHeartbeats 4000000 in
set_option maxRecDepth 100000 in
theorem k_X2_x {σ : Mem} {k : Nat} (hk : k < 1152) : CtI objC NC yX2_x cX2_x 1 .int 0 0 [.int (nI k)] σ (Pv (nI (cX k)) σ) := by
  refine ct_ofI rfl ?_ (Nat.le_of_ble_eq_true rfl) (fun X C hr => ?_)
  · intro v hv; simp only [List.mem_cons, List.not_mem_nil, or_false] at hv; rcases hv with rfl <;> rfl
  · refine go_iload_n C dX2_x_0 rfl ?_
    refine go_bipush C (nI 12) dX2_x_1 rfl ?_
    refine go_iremN C dX2_x_3 (by omega) (by omega) (by omega) ?_
    refine go_iret hr dX2_x_4 rfl ?_
    exact ⟨rfl, rfl⟩
set_option maxHeartbeats 4000000 in
set_option maxRecDepth 100000 in
theorem k_X2_y {σ : Mem} {k : Nat} (hk : k < 1152) : CtI objC NC yX2_y cX2_y 1 .int 0 0 [.int (nI k)] σ (Pv (nI (cY k)) σ) := by
  refine ct_ofI rfl ?_ (Nat.le_of_ble_eq_true rfl) (fun X C hr => ?_)
  · intro v hv; simp only [List.mem_cons, List.not_mem_nil, or_false] at hv; rcases hv with rfl <;> rfl
  · refine go_iload_n C dX2_y_0 rfl ?_
    refine go_bipush C (nI 12) dX2_y_1 rfl ?_
    refine go_idivN C dX2_y_3 (by omega) (by omega) (by omega) ?_
    refine go_bipush C (nI 8) dX2_y_4 rfl ?_
    refine go_iremN C dX2_y_6 (by omega) (by omega) (by omega) ?_
    refine go_iret hr dX2_y_7 rfl ?_
    exact ⟨rfl, rfl⟩
set_option maxHeartbeats 4000000 in
set_option maxRecDepth 100000 in
theorem k_X2_z {σ : Mem} {k : Nat} (hk : k < 1152) : CtI objC NC yX2_z cX2_z 1 .int 0 0 [.int (nI k)] σ (Pv (nI (cZ k)) σ) := by
  refine ct_ofI rfl ?_ (Nat.le_of_ble_eq_true rfl) (fun X C hr => ?_)
  · intro v hv; simp only [List.mem_cons, List.not_mem_nil, or_false] at hv; rcases hv with rfl <;> rfl
  · refine go_iload_n C dX2_z_0 rfl ?_
    refine go_bipush C (nI 96) dX2_z_1 rfl ?_
    refine go_idivN C dX2_z_3 (by omega) (by omega) (by omega) ?_
    refine go_iret hr dX2_z_4 rfl ?_
    exact ⟨rfl, rfl⟩
set_option maxHeartbeats 4000000 in
set_option maxRecDepth 100000 in
theorem k_X2_cell {σ : Mem} {a b c : Nat} : CtI objC NC yX2_cell cX2_cell 3 .int 0 0 [.int (nI a), .int (nI b), .int (nI c)] σ (Pv (nI (cel a b c)) σ) := by
  refine ct_ofI rfl ?_ (Nat.le_of_ble_eq_true rfl) (fun X C hr => ?_)
  · intro v hv; simp only [List.mem_cons, List.not_mem_nil, or_false] at hv; rcases hv with rfl | rfl | rfl <;> rfl
  · refine go_iload_n C dX2_cell_0 rfl ?_
    refine go_bipush C (nI 96) dX2_cell_1 rfl ?_
    refine go_imulN C dX2_cell_3 ?_
    refine go_iload_n C dX2_cell_4 rfl ?_
    refine go_bipush C (nI 12) dX2_cell_5 rfl ?_
    refine go_imulN C dX2_cell_7 ?_
    refine go_iaddN C dX2_cell_8 ?_
    refine go_iload_n C dX2_cell_9 rfl ?_
    refine go_iaddN C dX2_cell_10 ?_
    refine go_iret hr dX2_cell_11 rfl ?_
    exact ⟨congrArg nI (by unfold cel; omega), rfl⟩
set_option maxHeartbeats 4000000 in
set_option maxRecDepth 100000 in
theorem k_X2_number {σ : Mem} {k : Nat} (hk : k < 1152) : CtI objC NC yX2_number cX2_number 1 .int 1 20 [.int (nI k)] σ (Pv (nI (cod k)) σ) := by
  refine ct_ofI rfl ?_ (Nat.le_of_ble_eq_true rfl) (fun X C hr => ?_)
  · intro v hv; simp only [List.mem_cons, List.not_mem_nil, or_false] at hv; rcases hv with rfl <;> rfl
  · refine go_bipush C (nI 100) dX2_number_0 rfl ?_
    refine go_iload_n C dX2_number_2 rfl ?_
    refine go_S1P C ok_X2_z lk_X2_9 dX2_number_3 (k_X2_z (by omega)) (by decide) (Nat.le_of_ble_eq_true rfl) ?_
    refine go_imulN C dX2_number_6 ?_
    refine go_bipush C (nI 12) dX2_number_7 rfl ?_
    refine go_iload_n C dX2_number_9 rfl ?_
    refine go_S1P C ok_X2_y lk_X2_15 dX2_number_10 (k_X2_y (by omega)) (by decide) (Nat.le_of_ble_eq_true rfl) ?_
    refine go_imulN C dX2_number_13 ?_
    refine go_iaddN C dX2_number_14 ?_
    refine go_iload_n C dX2_number_15 rfl ?_
    refine go_S1P C ok_X2_x lk_X2_18 dX2_number_16 (k_X2_x (by omega)) (by decide) (Nat.le_of_ble_eq_true rfl) ?_
    refine go_iaddN C dX2_number_19 ?_
    refine go_iret hr dX2_number_20 rfl ?_
    exact ⟨rfl, rfl⟩
set_option maxHeartbeats 4000000 in
set_option maxRecDepth 100000 in
theorem k_X2_chunk {σ : Mem} {k : Nat} (hk : k < 1152) : CtI objC NC yX2_chunk cX2_chunk 1 .int 1 20 [.int (nI k)] σ (Pv (nI (chk k)) σ) := by
  have h1 := cX_lt k
  have h2 := cZ_lt hk
  refine ct_ofI rfl ?_ (Nat.le_of_ble_eq_true rfl) (fun X C hr => ?_)
  · intro v hv; simp only [List.mem_cons, List.not_mem_nil, or_false] at hv; rcases hv with rfl <;> rfl
  · refine go_iconst C (nI 3) dX2_chunk_0 rfl ?_
    refine go_iload_n C dX2_chunk_1 rfl ?_
    refine go_S1P C ok_X2_z lk_X2_9 dX2_chunk_2 (k_X2_z (by omega)) (by decide) (Nat.le_of_ble_eq_true rfl) ?_
    refine go_iconst C (nI 4) dX2_chunk_5 rfl ?_
    refine go_idivN C dX2_chunk_6 (by omega) (by omega) (by omega) ?_
    refine go_imulN C dX2_chunk_7 ?_
    refine go_iload_n C dX2_chunk_8 rfl ?_
    refine go_S1P C ok_X2_x lk_X2_18 dX2_chunk_9 (k_X2_x (by omega)) (by decide) (Nat.le_of_ble_eq_true rfl) ?_
    refine go_iconst C (nI 4) dX2_chunk_12 rfl ?_
    refine go_idivN C dX2_chunk_13 (by omega) (by omega) (by omega) ?_
    refine go_iaddN C dX2_chunk_14 ?_
    refine go_iret hr dX2_chunk_15 rfl ?_
    exact ⟨rfl, rfl⟩
set_option maxHeartbeats 4000000 in
set_option maxRecDepth 100000 in
theorem k_X2_has {σ : Mem} (x y z : Int32) : CtI objC NC yX2_has cX2_has 3 .boolean 0 0 [.int x, .int y, .int z] σ (Pv (bP (isC x y z)) σ) := by
  refine ct_ofI rfl ?_ (Nat.le_of_ble_eq_true rfl) (fun X C hr => ?_)
  · intro v hv; simp only [List.mem_cons, List.not_mem_nil, or_false] at hv; rcases hv with rfl | rfl | rfl <;> rfl
  · refine go_iload_n C dX2_has_0 rfl ?_
    refine go_if_lt C 34 dX2_has_1 (by decide) (fun h1 => ?_) (fun h1 => ?_)
    · refine go_iconst C (nI 0) dX2_has_34 rfl ?_
      refine go_iret hr dX2_has_35 rfl ?_
      exact ⟨by first | exact bP_t (by refine ⟨⟨?_, ?_⟩, ⟨?_, ?_⟩, ⟨?_, ?_⟩⟩ <;> assumption) | exact bP_f (by rintro ⟨⟨q1, q2⟩, ⟨q3, q4⟩, ⟨q5, q6⟩⟩; contradiction), rfl⟩
    · refine go_iload_n C dX2_has_4 rfl ?_
      refine go_bipush C (nI 12) dX2_has_5 rfl ?_
      refine go_icmp_ge C 34 dX2_has_7 (by decide) (fun h7 => ?_) (fun h7 => ?_)
      · refine go_iconst C (nI 0) dX2_has_34 rfl ?_
        refine go_iret hr dX2_has_35 rfl ?_
        exact ⟨by first | exact bP_t (by refine ⟨⟨?_, ?_⟩, ⟨?_, ?_⟩, ⟨?_, ?_⟩⟩ <;> assumption) | exact bP_f (by rintro ⟨⟨q1, q2⟩, ⟨q3, q4⟩, ⟨q5, q6⟩⟩; contradiction), rfl⟩
      · refine go_iload_n C dX2_has_10 rfl ?_
        refine go_if_lt C 34 dX2_has_11 (by decide) (fun h11 => ?_) (fun h11 => ?_)
        · refine go_iconst C (nI 0) dX2_has_34 rfl ?_
          refine go_iret hr dX2_has_35 rfl ?_
          exact ⟨by first | exact bP_t (by refine ⟨⟨?_, ?_⟩, ⟨?_, ?_⟩, ⟨?_, ?_⟩⟩ <;> assumption) | exact bP_f (by rintro ⟨⟨q1, q2⟩, ⟨q3, q4⟩, ⟨q5, q6⟩⟩; contradiction), rfl⟩
        · refine go_iload_n C dX2_has_14 rfl ?_
          refine go_bipush C (nI 8) dX2_has_15 rfl ?_
          refine go_icmp_ge C 34 dX2_has_17 (by decide) (fun h17 => ?_) (fun h17 => ?_)
          · refine go_iconst C (nI 0) dX2_has_34 rfl ?_
            refine go_iret hr dX2_has_35 rfl ?_
            exact ⟨by first | exact bP_t (by refine ⟨⟨?_, ?_⟩, ⟨?_, ?_⟩, ⟨?_, ?_⟩⟩ <;> assumption) | exact bP_f (by rintro ⟨⟨q1, q2⟩, ⟨q3, q4⟩, ⟨q5, q6⟩⟩; contradiction), rfl⟩
          · refine go_iload_n C dX2_has_20 rfl ?_
            refine go_if_lt C 34 dX2_has_21 (by decide) (fun h21 => ?_) (fun h21 => ?_)
            · refine go_iconst C (nI 0) dX2_has_34 rfl ?_
              refine go_iret hr dX2_has_35 rfl ?_
              exact ⟨by first | exact bP_t (by refine ⟨⟨?_, ?_⟩, ⟨?_, ?_⟩, ⟨?_, ?_⟩⟩ <;> assumption) | exact bP_f (by rintro ⟨⟨q1, q2⟩, ⟨q3, q4⟩, ⟨q5, q6⟩⟩; contradiction), rfl⟩
            · refine go_iload_n C dX2_has_24 rfl ?_
              refine go_bipush C (nI 12) dX2_has_25 rfl ?_
              refine go_icmp_ge C 34 dX2_has_27 (by decide) (fun h27 => ?_) (fun h27 => ?_)
              · refine go_iconst C (nI 0) dX2_has_34 rfl ?_
                refine go_iret hr dX2_has_35 rfl ?_
                exact ⟨by first | exact bP_t (by refine ⟨⟨?_, ?_⟩, ⟨?_, ?_⟩, ⟨?_, ?_⟩⟩ <;> assumption) | exact bP_f (by rintro ⟨⟨q1, q2⟩, ⟨q3, q4⟩, ⟨q5, q6⟩⟩; contradiction), rfl⟩
              · refine go_iconst C (nI 1) dX2_has_30 rfl ?_
                refine go_goto C 35 dX2_has_31 (by decide) ?_
                refine go_iret hr dX2_has_35 rfl ?_
                exact ⟨by first | exact bP_t (by refine ⟨⟨?_, ?_⟩, ⟨?_, ?_⟩, ⟨?_, ?_⟩⟩ <;> assumption) | exact bP_f (by rintro ⟨⟨q1, q2⟩, ⟨q3, q4⟩, ⟨q5, q6⟩⟩; contradiction), rfl⟩
set_option maxHeartbeats 4000000 in
set_option maxRecDepth 100000 in
theorem k_X6_isType {σ : Mem} (x : Int32) : CtI objC NC yX6_isType cX6_isType 1 .boolean 0 0 [.int x] σ (Pv (bP (rng 8 x)) σ) := by
  refine ct_ofI rfl ?_ (Nat.le_of_ble_eq_true rfl) (fun X C hr => ?_)
  · intro v hv; simp only [List.mem_cons, List.not_mem_nil, or_false] at hv; rcases hv with rfl <;> rfl
  · refine go_iload_n C dX6_isType_0 rfl ?_
    refine go_if_lt C 14 dX6_isType_1 (by decide) (fun h1 => ?_) (fun h1 => ?_)
    · refine go_iconst C (nI 0) dX6_isType_14 rfl ?_
      refine go_iret hr dX6_isType_15 rfl ?_
      exact ⟨by first | exact bP_t (by refine ⟨?_, ?_⟩ <;> assumption) | exact bP_f (by rintro ⟨q1, q2⟩; contradiction), rfl⟩
    · refine go_iload_n C dX6_isType_4 rfl ?_
      refine go_bipush C (nI 8) dX6_isType_5 rfl ?_
      refine go_icmp_ge C 14 dX6_isType_7 (by decide) (fun h7 => ?_) (fun h7 => ?_)
      · refine go_iconst C (nI 0) dX6_isType_14 rfl ?_
        refine go_iret hr dX6_isType_15 rfl ?_
        exact ⟨by first | exact bP_t (by refine ⟨?_, ?_⟩ <;> assumption) | exact bP_f (by rintro ⟨q1, q2⟩; contradiction), rfl⟩
      · refine go_iconst C (nI 1) dX6_isType_10 rfl ?_
        refine go_goto C 15 dX6_isType_11 (by decide) ?_
        refine go_iret hr dX6_isType_15 rfl ?_
        exact ⟨by first | exact bP_t (by refine ⟨?_, ?_⟩ <;> assumption) | exact bP_f (by rintro ⟨q1, q2⟩; contradiction), rfl⟩
set_option maxHeartbeats 4000000 in
set_option maxRecDepth 100000 in
theorem k_X6_isChannel {σ : Mem} (x : Int32) : CtI objC NC yX6_isChannel cX6_isChannel 1 .boolean 0 0 [.int x] σ (Pv (bP (rng 4 x)) σ) := by
  refine ct_ofI rfl ?_ (Nat.le_of_ble_eq_true rfl) (fun X C hr => ?_)
  · intro v hv; simp only [List.mem_cons, List.not_mem_nil, or_false] at hv; rcases hv with rfl <;> rfl
  · refine go_iload_n C dX6_isChannel_0 rfl ?_
    refine go_if_lt C 13 dX6_isChannel_1 (by decide) (fun h1 => ?_) (fun h1 => ?_)
    · refine go_iconst C (nI 0) dX6_isChannel_13 rfl ?_
      refine go_iret hr dX6_isChannel_14 rfl ?_
      exact ⟨by first | exact bP_t (by refine ⟨?_, ?_⟩ <;> assumption) | exact bP_f (by rintro ⟨q1, q2⟩; contradiction), rfl⟩
    · refine go_iload_n C dX6_isChannel_4 rfl ?_
      refine go_iconst C (nI 4) dX6_isChannel_5 rfl ?_
      refine go_icmp_ge C 13 dX6_isChannel_6 (by decide) (fun h6 => ?_) (fun h6 => ?_)
      · refine go_iconst C (nI 0) dX6_isChannel_13 rfl ?_
        refine go_iret hr dX6_isChannel_14 rfl ?_
        exact ⟨by first | exact bP_t (by refine ⟨?_, ?_⟩ <;> assumption) | exact bP_f (by rintro ⟨q1, q2⟩; contradiction), rfl⟩
      · refine go_iconst C (nI 1) dX6_isChannel_9 rfl ?_
        refine go_goto C 14 dX6_isChannel_10 (by decide) ?_
        refine go_iret hr dX6_isChannel_14 rfl ?_
        exact ⟨by first | exact bP_t (by refine ⟨?_, ?_⟩ <;> assumption) | exact bP_f (by rintro ⟨q1, q2⟩; contradiction), rfl⟩
set_option maxHeartbeats 4000000 in
set_option maxRecDepth 100000 in
theorem k_X6_isColor {σ : Mem} (x : Int32) : CtI objC NC yX6_isColor cX6_isColor 1 .boolean 0 0 [.int x] σ (Pv (bP (rng 3 x)) σ) := by
  refine ct_ofI rfl ?_ (Nat.le_of_ble_eq_true rfl) (fun X C hr => ?_)
  · intro v hv; simp only [List.mem_cons, List.not_mem_nil, or_false] at hv; rcases hv with rfl <;> rfl
  · refine go_iload_n C dX6_isColor_0 rfl ?_
    refine go_if_lt C 13 dX6_isColor_1 (by decide) (fun h1 => ?_) (fun h1 => ?_)
    · refine go_iconst C (nI 0) dX6_isColor_13 rfl ?_
      refine go_iret hr dX6_isColor_14 rfl ?_
      exact ⟨by first | exact bP_t (by refine ⟨?_, ?_⟩ <;> assumption) | exact bP_f (by rintro ⟨q1, q2⟩; contradiction), rfl⟩
    · refine go_iload_n C dX6_isColor_4 rfl ?_
      refine go_iconst C (nI 3) dX6_isColor_5 rfl ?_
      refine go_icmp_ge C 13 dX6_isColor_6 (by decide) (fun h6 => ?_) (fun h6 => ?_)
      · refine go_iconst C (nI 0) dX6_isColor_13 rfl ?_
        refine go_iret hr dX6_isColor_14 rfl ?_
        exact ⟨by first | exact bP_t (by refine ⟨?_, ?_⟩ <;> assumption) | exact bP_f (by rintro ⟨q1, q2⟩; contradiction), rfl⟩
      · refine go_iconst C (nI 1) dX6_isColor_9 rfl ?_
        refine go_goto C 14 dX6_isColor_10 (by decide) ?_
        refine go_iret hr dX6_isColor_14 rfl ?_
        exact ⟨by first | exact bP_t (by refine ⟨?_, ?_⟩ <;> assumption) | exact bP_f (by rintro ⟨q1, q2⟩; contradiction), rfl⟩
set_option maxHeartbeats 4000000 in
set_option maxRecDepth 100000 in
theorem k_X6_isChunk {σ : Mem} (x : Int32) : CtI objC NC yX6_isChunk cX6_isChunk 1 .boolean 0 0 [.int x] σ (Pv (bP (rng 9 x)) σ) := by
  refine ct_ofI rfl ?_ (Nat.le_of_ble_eq_true rfl) (fun X C hr => ?_)
  · intro v hv; simp only [List.mem_cons, List.not_mem_nil, or_false] at hv; rcases hv with rfl <;> rfl
  · refine go_iload_n C dX6_isChunk_0 rfl ?_
    refine go_if_lt C 14 dX6_isChunk_1 (by decide) (fun h1 => ?_) (fun h1 => ?_)
    · refine go_iconst C (nI 0) dX6_isChunk_14 rfl ?_
      refine go_iret hr dX6_isChunk_15 rfl ?_
      exact ⟨by first | exact bP_t (by refine ⟨?_, ?_⟩ <;> assumption) | exact bP_f (by rintro ⟨q1, q2⟩; contradiction), rfl⟩
    · refine go_iload_n C dX6_isChunk_4 rfl ?_
      refine go_bipush C (nI 9) dX6_isChunk_5 rfl ?_
      refine go_icmp_ge C 14 dX6_isChunk_7 (by decide) (fun h7 => ?_) (fun h7 => ?_)
      · refine go_iconst C (nI 0) dX6_isChunk_14 rfl ?_
        refine go_iret hr dX6_isChunk_15 rfl ?_
        exact ⟨by first | exact bP_t (by refine ⟨?_, ?_⟩ <;> assumption) | exact bP_f (by rintro ⟨q1, q2⟩; contradiction), rfl⟩
      · refine go_iconst C (nI 1) dX6_isChunk_10 rfl ?_
        refine go_goto C 15 dX6_isChunk_11 (by decide) ?_
        refine go_iret hr dX6_isChunk_15 rfl ?_
        exact ⟨by first | exact bP_t (by refine ⟨?_, ?_⟩ <;> assumption) | exact bP_f (by rintro ⟨q1, q2⟩; contradiction), rfl⟩
end
section
/-! Light, purely: what it is, that it is one, how it is raised. -/
theorem nbr_sym {n d m : Nat} (hn : n < 1152) (h : nbr n d = some m) : ∃ e, e < 6 ∧ nbr m e = some n := by
  unfold nbr cX cY cZ at h
  split at h <;> first | (cases h; done) | skip
  · split at h
    · cases h; refine ⟨1, by decide, ?_⟩; show (if cX (n - 1) < 11 then some (n - 1 + 1) else none) = some n; rw [if_pos (by unfold cX; omega)]; congr 1; omega
    · cases h
  · split at h
    · cases h; refine ⟨0, by decide, ?_⟩; show (if 0 < cX (n + 1) then some (n + 1 - 1) else none) = some n; rw [if_pos (by unfold cX; omega)]; congr 1
    · cases h
  · split at h
    · cases h; refine ⟨3, by decide, ?_⟩; show (if cY (n - 12) < 7 then some (n - 12 + 12) else none) = some n; rw [if_pos (by unfold cY; omega)]; congr 1; omega
    · cases h
  · split at h
    · cases h; refine ⟨2, by decide, ?_⟩; show (if 0 < cY (n + 12) then some (n + 12 - 12) else none) = some n; rw [if_pos (by unfold cY; omega)]; congr 1
    · cases h
  · split at h
    · cases h; refine ⟨5, by decide, ?_⟩; show (if cZ (n - 96) < 11 then some (n - 96 + 96) else none) = some n; rw [if_pos (by unfold cZ; omega)]; congr 1; omega
    · cases h
  · split at h
    · cases h; refine ⟨4, by decide, ?_⟩; show (if 0 < cZ (n + 96) then some (n + 96 - 96) else none) = some n; rw [if_pos (by unfold cZ; omega)]; congr 1
    · cases h
theorem nbr_ne {n d m : Nat} (h : nbr n d = some m) : n ≠ m := by
  unfold nbr cX cY cZ at h
  split at h <;> first | (cases h; done) | (split at h <;> first | (cases h; done) | (cases h; omega))
theorem nbr_d {n d m : Nat} (h : nbr n d = some m) : d < 6 := by
  unfold nbr at h
  split at h <;> first | (cases h; done) | decide
def IsLit (src ls f : Nat → Nat) : Prop :=
  (∀ n, n < 1152 → src n ≤ f n ∧ f n ≤ 15) ∧ (∀ n, n < 1152 → ∀ d m, nbr n d = some m → f m ≤ f n + 1 + ls n) ∧ (∀ n, n < 1152 → 0 < f n → f n = src n ∨ ∃ d m, nbr n d = some m ∧ f m = f n + 1 + ls n)
theorem lit_le {src ls f g : Nat → Nat} (hb : ∀ n, n < 1152 → f n ≤ 15) (hf : ∀ n, n < 1152 → 0 < f n → f n = src n ∨ ∃ d m, nbr n d = some m ∧ f m = f n + 1 + ls n) (hs : ∀ n, n < 1152 → src n ≤ g n) (hc : ∀ n, n < 1152 → ∀ d m, nbr n d = some m → g m ≤ g n + 1 + ls n) : ∀ n, n < 1152 → f n ≤ g n := by
  have key : ∀ k n, n < 1152 → 15 - f n ≤ k → f n ≤ g n := by
    intro k
    induction k with
    | zero =>
      intro n hn hk
      have h15 : f n = 15 := by have := hb n hn; omega
      rcases hf n hn (by omega) with h | ⟨d, m, h1, h2⟩
      · rw [h]; exact hs n hn
      · have := hb m (nbr_lt hn h1); omega
    | succ k ih =>
      intro n hn hk
      rcases Nat.eq_zero_or_pos (f n) with h0 | h0
      · omega
      · rcases hf n hn h0 with h | ⟨d, m, h1, h2⟩
        · rw [h]; exact hs n hn
        · have hm := nbr_lt hn h1
          have h3 := ih m hm (by have := hb m hm; omega)
          have h4 := hc n hn d m h1
          omega
  exact fun n hn => key _ n hn (Nat.le_refl _)
theorem lit_one {src ls f g : Nat → Nat} (hf : IsLit src ls f) (hg : IsLit src ls g) : ∀ n, n < 1152 → f n = g n := fun n hn =>
  Nat.le_antisymm (lit_le (fun n h => (hf.1 n h).2) hf.2.2 (fun n h => (hg.1 n h).1) hg.2.1 n hn) (lit_le (fun n h => (hg.1 n h).2) hg.2.2 (fun n h => (hf.1 n h).1) hf.2.1 n hn)
noncomputable def lfp (src ls : Nat → Nat) : Nat → Nat := @dite _ (∃ f, IsLit src ls f) (Classical.propDecidable _) (fun h => Classical.choose h) (fun _ => fun _ => 0)
theorem lfp_is {src ls f : Nat → Nat} (h : IsLit src ls f) : IsLit src ls (lfp src ls) := by
  unfold lfp
  rw [dif_pos ⟨f, h⟩]
  exact Classical.choose_spec (⟨f, h⟩ : ∃ f, IsLit src ls f)
theorem lfp_eq {src ls f : Nat → Nat} (h : IsLit src ls f) {n : Nat} (hn : n < 1152) : f n = lfp src ls n := lit_one h (lfp_is h) n hn
theorem isLit_c {src ls src' ls' f f' : Nat → Nat} (h1 : ∀ n, n < 1152 → src n = src' n) (h2 : ∀ n, n < 1152 → ls n = ls' n) (h3 : ∀ n, n < 1152 → f n = f' n) (h : IsLit src ls f) : IsLit src' ls' f' := by
  refine ⟨fun n hn => ?_, fun n hn d m hd => ?_, fun n hn h0 => ?_⟩
  · rw [← h1 n hn, ← h3 n hn]; exact h.1 n hn
  · rw [← h2 n hn, ← h3 n hn, ← h3 m (nbr_lt hn hd)]; exact h.2.1 n hn d m hd
  · rw [← h3 n hn] at h0
    rw [← h1 n hn, ← h2 n hn, ← h3 n hn]
    rcases h.2.2 n hn h0 with q | ⟨d, m, q1, q2⟩
    · exact Or.inl q
    · exact Or.inr ⟨d, m, q1, by rw [← h3 m (nbr_lt hn q1)]; exact q2⟩
/-- one value of a function of numbers put anew -/
def un (f : Nat → Nat) (k v : Nat) : Nat → Nat := fun j => if j = k then v else f j
theorem un_s {f : Nat → Nat} {k v : Nat} : un f k v k = v := if_pos rfl
theorem un_n {f : Nat → Nat} {k v j : Nat} (h : j ≠ k) : un f k v j = f j := if_neg h
/-- while the level lv is gone through: D tells which pairs are done -/
def PI (src ls : Nat → Nat) (lv : Nat) (f : Nat → Nat) (D : Nat → Nat → Prop) : Prop :=
  (∀ n, n < 1152 → src n ≤ f n ∧ f n ≤ 15) ∧ (∀ n, n < 1152 → 0 < f n → f n = src n ∨ ∃ d m, nbr n d = some m ∧ f m = f n + 1 + ls n ∧ lv ≤ f m) ∧ (∀ n, n < 1152 → ∀ d m, nbr n d = some m → lv < f m → f m ≤ f n + 1 + ls n) ∧ (∀ m n, D m n → f m = lv → f m ≤ f n + 1 + ls n)
theorem PI_0 {src ls f : Nat → Nat} (h : ∀ n, n < 1152 → src n ≤ 15) (hf : ∀ n, n < 1152 → f n = src n) : PI src ls 15 f (fun _ _ => False) :=
  ⟨fun n hn => by rw [hf n hn]; exact ⟨Nat.le_refl _, h n hn⟩, fun n hn _ => Or.inl (hf n hn), fun n hn d m hd h15 => by
    have hm := nbr_lt hn hd
    have := h m hm
    rw [hf m hm] at h15
    omega, fun _ _ h => h.elim⟩
theorem PI_1 {src ls f : Nat → Nat} {D : Nat → Nat → Prop} (h : PI src ls 1 f D) : IsLit src ls f :=
  ⟨h.1, fun n hn d m hd => by
    rcases Nat.lt_or_ge 1 (f m) with q | q
    · exact h.2.2.1 n hn d m hd q
    · omega, fun n hn h0 => by
    rcases h.2.1 n hn h0 with q | ⟨d, m, q1, q2, -⟩
    · exact Or.inl q
    · exact Or.inr ⟨d, m, q1, q2⟩⟩
theorem PI_lv {src ls f : Nat → Nat} {lv : Nat} {D : Nat → Nat → Prop} (h : PI src ls (lv + 1) f D) (hD : ∀ m n d, m < 1152 → f m = lv + 1 → nbr m d = some n → D m n) : PI src ls lv f (fun _ _ => False) :=
  ⟨h.1, fun n hn h0 => by
    rcases h.2.1 n hn h0 with q | ⟨d, m, q1, q2, q3⟩
    · exact Or.inl q
    · exact Or.inr ⟨d, m, q1, q2, by omega⟩, fun n hn d m hd hm => by
    rcases Nat.lt_or_ge (lv + 1) (f m) with q | q
    · exact h.2.2.1 n hn d m hd q
    · have e : f m = lv + 1 := by omega
      obtain ⟨d', -, hd'⟩ := nbr_sym hn hd
      exact h.2.2.2 m n (hD m n d' (nbr_lt hn hd) e hd') e, fun _ _ h => h.elim⟩
/-- a neighbor gets what it can -/
def rse (f ls : Nat → Nat) (lv n : Nat) : Nat → Nat := un f n (max (f n) (lv - 1 - ls n))
theorem rse_ge {f ls : Nat → Nat} {lv n : Nat} (q : Nat) : f q ≤ rse f ls lv n q := by
  unfold rse
  by_cases h : q = n
  · subst h; rw [un_s]; exact Nat.le_max_left _ _
  · rw [un_n h]; exact Nat.le_refl _
theorem rse_hi {f ls : Nat → Nat} {lv n q : Nat} (h1 : 1 ≤ lv) (h : lv ≤ rse f ls lv n q) : rse f ls lv n q = f q := by
  unfold rse at h ⊢
  by_cases e : q = n
  · subst e
    rw [un_s] at h ⊢
    have : lv - 1 - ls q < lv := by omega
    rw [Nat.max_def] at h ⊢
    split at h <;> split <;> omega
  · rw [un_n e]
theorem rse_hi2 {f ls : Nat → Nat} {lv n q : Nat} (h1 : 1 ≤ lv) (h : lv ≤ f q) : rse f ls lv n q = f q := rse_hi h1 (Nat.le_trans h (rse_ge q))
theorem PI_rse {src ls f : Nat → Nat} {lv m n d : Nat} {D : Nat → Nat → Prop} (h : PI src ls lv f D) (h1 : 1 ≤ lv) (hm : m < 1152) (hfm : f m = lv) (hd : nbr m d = some n) : PI src ls lv (rse f ls lv n) (fun a b => D a b ∨ (a = m ∧ b = n)) := by
  have hn := nbr_lt hm hd
  have hlv : lv ≤ 15 := by rw [← hfm]; exact (h.1 m hm).2
  have hmm : rse f ls lv n m = lv := by rw [rse_hi2 h1 (by omega)]; exact hfm
  refine ⟨fun q hq => ⟨Nat.le_trans (h.1 q hq).1 (rse_ge q), ?_⟩, fun q hq h0 => ?_, fun q hq d' m' hd' hlt => ?_, fun a b hab ha => ?_⟩
  · have hq2 := (h.1 q hq).2
    unfold rse
    by_cases e : q = n
    · subst e; rw [un_s]; exact Nat.max_le.mpr ⟨hq2, by omega⟩
    · rw [un_n e]; exact hq2
  · have old : rse f ls lv n q = f q → rse f ls lv n q = src q ∨ ∃ d m, nbr q d = some m ∧ rse f ls lv n m = rse f ls lv n q + 1 + ls q ∧ lv ≤ rse f ls lv n m := by
      intro e
      rw [e] at h0 ⊢
      rcases h.2.1 q hq h0 with z | ⟨d', m', z1, z2, z3⟩
      · exact Or.inl z
      · exact Or.inr ⟨d', m', z1, by rw [rse_hi2 h1 z3]; exact z2, by rw [rse_hi2 h1 z3]; exact z3⟩
    by_cases e : q = n
    · subst e
      by_cases e2 : lv - 1 - ls q ≤ f q
      · exact old (by unfold rse; rw [un_s, Nat.max_eq_left e2])
      · have e3 : rse f ls lv q q = lv - 1 - ls q := by unfold rse; rw [un_s, Nat.max_eq_right (by omega)]
        obtain ⟨d', -, hd'⟩ := nbr_sym hm hd
        refine Or.inr ⟨d', m, hd', ?_, ?_⟩
        · rw [hmm, e3]; omega
        · rw [hmm]; exact Nat.le_refl _
    · exact old (by unfold rse; rw [un_n e])
  · have e := rse_hi h1 (Nat.le_of_lt hlt)
    rw [e] at hlt ⊢
    exact Nat.le_trans (h.2.2.1 q hq d' m' hd' hlt) (by have := rse_ge (f := f) (ls := ls) (lv := lv) (n := n) q; omega)
  · have e := rse_hi h1 (Nat.le_of_eq ha.symm)
    rcases hab with z | ⟨rfl, rfl⟩
    · rw [e] at ha ⊢
      exact Nat.le_trans (h.2.2.2 a b z ha) (by have := rse_ge (f := f) (ls := ls) (lv := lv) (n := n) b; omega)
    · rw [hmm]
      unfold rse
      rw [un_s]
      have := Nat.le_max_right (f b) (lv - 1 - ls b)
      omega
theorem PI_mono {src ls f : Nat → Nat} {lv : Nat} {D D' : Nat → Nat → Prop} (h : PI src ls lv f D) (hD : ∀ m n, D' m n → D m n) : PI src ls lv f D' := ⟨h.1, h.2.1, h.2.2.1, fun m n q => h.2.2.2 m n (hD m n q)⟩
/-! the sun's own light: straight down -/
def sunF (l3 : Nat → Nat) : Nat → Nat → Nat
  | 0, n => 15 - l3 n
  | k + 1, n => if l3 n = 0 ∧ sunF l3 k (n + 12) = 15 then 15 else 0
def sunS (l3 : Nat → Nat) (n : Nat) : Nat := sunF l3 (7 - cY n) n
theorem sunS_top {l3 : Nat → Nat} {n : Nat} (h : cY n = 7) : sunS l3 n = 15 - l3 n := by unfold sunS; rw [h]; rfl
theorem sunS_low {l3 : Nat → Nat} {n : Nat} (h : cY n < 7) : sunS l3 n = if l3 n = 0 ∧ sunS l3 (n + 12) = 15 then 15 else 0 := by
  have e : cY (n + 12) = cY n + 1 := by unfold cY at h ⊢; omega
  unfold sunS
  rw [e, show 7 - cY n = (7 - (cY n + 1)) + 1 by omega]
  rfl
theorem sunS_le {l3 : Nat → Nat} (n : Nat) : sunS l3 n ≤ 15 := by
  by_cases h : cY n = 7
  · rw [sunS_top h]; omega
  · have := cY_lt n
    rw [sunS_low (by omega)]
    split <;> omega
/-! counting -/
noncomputable def pN (P : Prop) : Nat := @ite _ P (Classical.propDecidable P) 1 0
theorem pN_t {P : Prop} (h : P) : pN P = 1 := by unfold pN; rw [if_pos h]
theorem pN_f {P : Prop} (h : ¬ P) : pN P = 0 := by unfold pN; rw [if_neg h]
theorem pN_c {P Q : Prop} (h : P ↔ Q) : pN P = pN Q := by rw [propext h]
theorem pN_le {P : Prop} : pN P ≤ 1 := by unfold pN; split <;> decide
noncomputable def cnt (p : Nat → Prop) : Nat → Nat
  | 0 => 0
  | n + 1 => cnt p n + pN (p n)
theorem cnt_le {p : Nat → Prop} : ∀ n, cnt p n ≤ n
  | 0 => Nat.le_refl 0
  | n + 1 => Nat.add_le_add (cnt_le n) pN_le
theorem cnt_c {p q : Nat → Prop} : ∀ n, (∀ j, j < n → (p j ↔ q j)) → cnt p n = cnt q n
  | 0, _ => rfl
  | n + 1, h => by
    show cnt p n + pN (p n) = cnt q n + pN (q n)
    rw [cnt_c n (fun j hj => h j (by omega)), pN_c (h n (by omega))]
/-- one more -/
theorem cnt_add {p q : Nat → Prop} {k : Nat} (hp : ¬ p k) (hq : q k) (h : ∀ j, j ≠ k → (p j ↔ q j)) : ∀ n, k < n → cnt q n = cnt p n + 1
  | 0, hk => absurd hk (Nat.not_lt_zero _)
  | n + 1, hk => by
    show cnt q n + pN (q n) = cnt p n + pN (p n) + 1
    rcases Nat.lt_or_ge k n with h1 | h1
    · rw [cnt_add hp hq h n h1, pN_c (h n (by omega))]; omega
    · have e : n = k := by omega
      subst e
      rw [cnt_c n (fun j hj => (h j (by omega)).symm), pN_t hq, pN_f hp]
theorem cnt_lt {p : Nat → Prop} {k n : Nat} (hp : ¬ p k) (hk : k < n) : cnt p n < n := by
  have h := cnt_add (p := p) (q := fun j => j = k ∨ p j) hp (Or.inl rfl) (fun j hj => ⟨Or.inr, fun q => q.elim (fun e => absurd e hj) id⟩) n hk
  have := cnt_le (p := fun j => j = k ∨ p j) n
  omega
theorem cnt_pos {p : Nat → Prop} {k n : Nat} (hp : p k) (hk : k < n) : 0 < cnt p n := by
  have h := cnt_add (p := fun j => j ≠ k ∧ p j) (q := p) (k := k) (fun q => q.1 rfl) hp (fun j hj => ⟨fun q => q.2, fun q => ⟨hj, q⟩⟩) n hk
  omega
end
section
/-! A world: types, losses, emissions; how both systems hold one; its light. -/
abbrev Wd := (Nat → Nat) × (Nat → Nat) × (Nat → Nat)
def wT (w : Wd) : Nat → Nat := w.1
def wL (w : Wd) : Nat → Nat := w.2.1
def wE (w : Wd) : Nat → Nat := w.2.2
def OkW (w : Wd) : Prop := (∀ j, j < 1152 → wT w j < 8) ∧ (∀ j, j < 32 → wL w j < 16) ∧ (∀ j, j < 32 → wE w j < 16) ∧ ∀ t, t < 8 → wE w (4 * t + 3) = 0
def HasW (σ : Mem) (b : Nat) (w : Wd) : Prop := (∀ j, j < 1152 → σ (b + 1) j = nI (wT w j)) ∧ (∀ j, j < 32 → σ (b + 2) j = nI (wL w j)) ∧ ∀ j, j < 32 → σ (b + 3) j = nI (wE w j)
def HasM (τ : Mem) (k o : Nat) (w : Wd) : Prop := (∀ j, j < 1152 → τ k (o + j) = nI (wT w j)) ∧ (∀ j, j < 32 → τ k (o + (1152 + j)) = nI (wL w j)) ∧ ∀ j, j < 32 → τ k (o + (1184 + j)) = nI (wE w j)
theorem HasW.of {σ τ : Mem} {b : Nat} {w : Wd} (h : HasW σ b w) (h1 : τ (b + 1) = σ (b + 1)) (h2 : τ (b + 2) = σ (b + 2)) (h3 : τ (b + 3) = σ (b + 3)) : HasW τ b w := by
  unfold HasW
  rw [h1, h2, h3]
  exact h
theorem HasM.of {σ τ : Mem} {k o : Nat} {w : Wd} (h : HasM σ k o w) (h1 : τ k = σ k) : HasM τ k o w := by
  unfold HasM
  rw [h1]
  exact h
def lossN (w : Wd) (c n : Nat) : Nat := wL w (4 * wT w n + c)
def emN (w : Wd) (c n : Nat) : Nat := wE w (4 * wT w n + c)
theorem lossN_lt {w : Wd} (h : OkW w) {c n : Nat} (hc : c < 4) (hn : n < 1152) : lossN w c n < 16 := h.2.1 _ (by have := h.1 n hn; omega)
theorem emN_lt {w : Wd} (h : OkW w) {c n : Nat} (hc : c < 4) (hn : n < 1152) : emN w c n < 16 := h.2.2.1 _ (by have := h.1 n hn; omega)
theorem emN_3 {w : Wd} (h : OkW w) {n : Nat} (hn : n < 1152) : emN w 3 n = 0 := h.2.2.2 _ (h.1 n hn)
/-- the light that a cell has by itself, in a channel; in the cell q it is e in place of its emission (q is no cell: nowhere) -/
def srcQ (w : Wd) (c q e : Nat) (n : Nat) : Nat := if c = 3 then sunS (lossN w 3) n else if n = q then e else emN w c n
theorem srcQ_le {w : Wd} (h : OkW w) {c q e : Nat} (hc : c < 4) (he : e < 16) : ∀ n, n < 1152 → srcQ w c q e n ≤ 15 := by
  intro n hn
  unfold srcQ
  split
  · exact sunS_le n
  · split
    · omega
    · have := emN_lt h hc hn; omega
noncomputable def litQ (w : Wd) (c q e : Nat) : Nat → Nat := lfp (srcQ w c q e) (lossN w c)
noncomputable def lit (w : Wd) (c : Nat) : Nat → Nat := litQ w c 1152 0
def IsLQ (w : Wd) (c q e : Nat) (f : Nat → Nat) : Prop := IsLit (srcQ w c q e) (lossN w c) f
end
section
theorem le15 {x : Int32} (h : nI 15 < x) : nI 16 ≤ x := by
  rcases pk_ix x (n := 16) (by decide) with q | q | ⟨j, hj, rfl⟩
  · exact absurd (Int32.lt_trans h q) (by decide)
  · exact q
  · exact absurd h (nI_nlt (by omega) (by decide))
set_option maxHeartbeats 4000000 in
set_option maxRecDepth 100000 in
theorem k_X6_isStrength {σ : Mem} (x : Int32) : CtI objC NC yX6_isStrength cX6_isStrength 1 .boolean 0 0 [.int x] σ (Pv (bP (rng 16 x)) σ) := by
  refine ct_ofI rfl ?_ (Nat.le_of_ble_eq_true rfl) (fun X C hr => ?_)
  · intro v hv; simp only [List.mem_cons, List.not_mem_nil, or_false] at hv; rcases hv with rfl <;> rfl
  · refine go_iload_n C dX6_isStrength_0 rfl ?_
    refine go_if_lt C 14 dX6_isStrength_1 (by decide) (fun h1 => ?_) (fun h1 => ?_)
    · refine go_iconst C (nI 0) dX6_isStrength_14 rfl ?_
      refine go_iret hr dX6_isStrength_15 rfl ?_
      exact ⟨by first | exact bP_t ⟨by assumption, fun q => absurd (Int32.lt_of_lt_of_le (show nI 15 < nI 16 by decide) q) (by assumption)⟩ | exact bP_f (by rintro ⟨q1, q2⟩; first | contradiction | exact q2 (le15 (by assumption))), rfl⟩
    · refine go_iload_n C dX6_isStrength_4 rfl ?_
      refine go_bipush C (nI 15) dX6_isStrength_5 rfl ?_
      refine go_icmp_gt C 14 dX6_isStrength_7 (by decide) (fun h7 => ?_) (fun h7 => ?_)
      · refine go_iconst C (nI 0) dX6_isStrength_14 rfl ?_
        refine go_iret hr dX6_isStrength_15 rfl ?_
        exact ⟨by first | exact bP_t ⟨by assumption, fun q => absurd (Int32.lt_of_lt_of_le (show nI 15 < nI 16 by decide) q) (by assumption)⟩ | exact bP_f (by rintro ⟨q1, q2⟩; first | contradiction | exact q2 (le15 (by assumption))), rfl⟩
      · refine go_iconst C (nI 1) dX6_isStrength_10 rfl ?_
        refine go_goto C 15 dX6_isStrength_11 (by decide) ?_
        refine go_iret hr dX6_isStrength_15 rfl ?_
        exact ⟨by first | exact bP_t ⟨by assumption, fun q => absurd (Int32.lt_of_lt_of_le (show nI 15 < nI 16 by decide) q) (by assumption)⟩ | exact bP_f (by rintro ⟨q1, q2⟩; first | contradiction | exact q2 (le15 (by assumption))), rfl⟩
set_option maxHeartbeats 4000000 in
set_option maxRecDepth 100000 in
theorem k_X2_neighbor {σ : Mem} {k d : Nat} (hk : k < 1152) (hd : d < 6) : CtI objC NC yX2_neighbor cX2_neighbor 2 .int 1 20 [.int (nI k), .int (nI d)] σ (Pv (oI (nbr k d)) σ) := by
  have b1 := cX_lt k
  have b2 := cY_lt k
  have b3 := cZ_lt hk
  refine ct_ofI rfl ?_ (Nat.le_of_ble_eq_true rfl) (fun X C hr => ?_)
  · intro v hv; simp only [List.mem_cons, List.not_mem_nil, or_false] at hv; rcases hv with rfl | rfl <;> rfl
  · refine go_iload_n C dX2_neighbor_0 rfl ?_
    rcases (show d = 0 ∨ d = 1 ∨ d = 2 ∨ d = 3 ∨ d = 4 ∨ d = 5 by omega) with rfl | rfl | rfl | rfl | rfl | rfl
    · refine go_tableIn C 40 39 dX2_neighbor_1 (by decide) (by decide) rfl (by decide) ?_
      refine go_iload_n C dX2_neighbor_40 rfl ?_
      refine go_S1P C ok_X2_x lk_X2_18 dX2_neighbor_41 (k_X2_x (by omega)) (by decide) (Nat.le_of_ble_eq_true rfl) ?_
      refine go_if_leN C 53 dX2_neighbor_44 (by decide) (by omega) (fun h44 => ?_) (fun h44 => ?_)
      · refine go_iconst C (-1) dX2_neighbor_53 rfl ?_
        refine go_iret hr dX2_neighbor_54 rfl ?_
        exact ⟨by simp only [nbr]; first | (rw [if_pos (by omega)]; rfl) | (rw [if_neg (by omega)]; rfl), rfl⟩
      · refine go_iload_n C dX2_neighbor_47 rfl ?_
        refine go_iconst C (nI 1) dX2_neighbor_48 rfl ?_
        refine go_isubN C dX2_neighbor_49 (by simp only [cX, cY, cZ] at *; omega) ?_
        refine go_goto C 54 dX2_neighbor_50 (by decide) ?_
        refine go_iret hr dX2_neighbor_54 rfl ?_
        exact ⟨by simp only [nbr]; first | (rw [if_pos (by omega)]; rfl) | (rw [if_neg (by omega)]; rfl), rfl⟩
    · refine go_tableIn C 55 54 dX2_neighbor_1 (by decide) (by decide) rfl (by decide) ?_
      refine go_iload_n C dX2_neighbor_55 rfl ?_
      refine go_S1P C ok_X2_x lk_X2_18 dX2_neighbor_56 (k_X2_x (by omega)) (by decide) (Nat.le_of_ble_eq_true rfl) ?_
      refine go_bipush C (nI 11) dX2_neighbor_59 rfl ?_
      refine go_icmp_geN C 70 dX2_neighbor_61 (by decide) (by omega) (by omega) (fun h61 => ?_) (fun h61 => ?_)
      · refine go_iconst C (-1) dX2_neighbor_70 rfl ?_
        refine go_iret hr dX2_neighbor_71 rfl ?_
        exact ⟨by simp only [nbr]; first | (rw [if_pos (by omega)]; rfl) | (rw [if_neg (by omega)]; rfl), rfl⟩
      · refine go_iload_n C dX2_neighbor_64 rfl ?_
        refine go_iconst C (nI 1) dX2_neighbor_65 rfl ?_
        refine go_iaddN C dX2_neighbor_66 ?_
        refine go_goto C 71 dX2_neighbor_67 (by decide) ?_
        refine go_iret hr dX2_neighbor_71 rfl ?_
        exact ⟨by simp only [nbr]; first | (rw [if_pos (by omega)]; rfl) | (rw [if_neg (by omega)]; rfl), rfl⟩
    · refine go_tableIn C 72 71 dX2_neighbor_1 (by decide) (by decide) rfl (by decide) ?_
      refine go_iload_n C dX2_neighbor_72 rfl ?_
      refine go_S1P C ok_X2_y lk_X2_15 dX2_neighbor_73 (k_X2_y (by omega)) (by decide) (Nat.le_of_ble_eq_true rfl) ?_
      refine go_if_leN C 86 dX2_neighbor_76 (by decide) (by omega) (fun h76 => ?_) (fun h76 => ?_)
      · refine go_iconst C (-1) dX2_neighbor_86 rfl ?_
        refine go_iret hr dX2_neighbor_87 rfl ?_
        exact ⟨by simp only [nbr]; first | (rw [if_pos (by omega)]; rfl) | (rw [if_neg (by omega)]; rfl), rfl⟩
      · refine go_iload_n C dX2_neighbor_79 rfl ?_
        refine go_bipush C (nI 12) dX2_neighbor_80 rfl ?_
        refine go_isubN C dX2_neighbor_82 (by simp only [cX, cY, cZ] at *; omega) ?_
        refine go_goto C 87 dX2_neighbor_83 (by decide) ?_
        refine go_iret hr dX2_neighbor_87 rfl ?_
        exact ⟨by simp only [nbr]; first | (rw [if_pos (by omega)]; rfl) | (rw [if_neg (by omega)]; rfl), rfl⟩
    · refine go_tableIn C 88 87 dX2_neighbor_1 (by decide) (by decide) rfl (by decide) ?_
      refine go_iload_n C dX2_neighbor_88 rfl ?_
      refine go_S1P C ok_X2_y lk_X2_15 dX2_neighbor_89 (k_X2_y (by omega)) (by decide) (Nat.le_of_ble_eq_true rfl) ?_
      refine go_bipush C (nI 7) dX2_neighbor_92 rfl ?_
      refine go_icmp_geN C 104 dX2_neighbor_94 (by decide) (by omega) (by omega) (fun h94 => ?_) (fun h94 => ?_)
      · refine go_iconst C (-1) dX2_neighbor_104 rfl ?_
        refine go_iret hr dX2_neighbor_105 rfl ?_
        exact ⟨by simp only [nbr]; first | (rw [if_pos (by omega)]; rfl) | (rw [if_neg (by omega)]; rfl), rfl⟩
      · refine go_iload_n C dX2_neighbor_97 rfl ?_
        refine go_bipush C (nI 12) dX2_neighbor_98 rfl ?_
        refine go_iaddN C dX2_neighbor_100 ?_
        refine go_goto C 105 dX2_neighbor_101 (by decide) ?_
        refine go_iret hr dX2_neighbor_105 rfl ?_
        exact ⟨by simp only [nbr]; first | (rw [if_pos (by omega)]; rfl) | (rw [if_neg (by omega)]; rfl), rfl⟩
    · refine go_tableIn C 106 105 dX2_neighbor_1 (by decide) (by decide) rfl (by decide) ?_
      refine go_iload_n C dX2_neighbor_106 rfl ?_
      refine go_S1P C ok_X2_z lk_X2_9 dX2_neighbor_107 (k_X2_z (by omega)) (by decide) (Nat.le_of_ble_eq_true rfl) ?_
      refine go_if_leN C 120 dX2_neighbor_110 (by decide) (by omega) (fun h110 => ?_) (fun h110 => ?_)
      · refine go_iconst C (-1) dX2_neighbor_120 rfl ?_
        refine go_iret hr dX2_neighbor_121 rfl ?_
        exact ⟨by simp only [nbr]; first | (rw [if_pos (by omega)]; rfl) | (rw [if_neg (by omega)]; rfl), rfl⟩
      · refine go_iload_n C dX2_neighbor_113 rfl ?_
        refine go_bipush C (nI 96) dX2_neighbor_114 rfl ?_
        refine go_isubN C dX2_neighbor_116 (by simp only [cX, cY, cZ] at *; omega) ?_
        refine go_goto C 121 dX2_neighbor_117 (by decide) ?_
        refine go_iret hr dX2_neighbor_121 rfl ?_
        exact ⟨by simp only [nbr]; first | (rw [if_pos (by omega)]; rfl) | (rw [if_neg (by omega)]; rfl), rfl⟩
    · refine go_tableIn C 122 121 dX2_neighbor_1 (by decide) (by decide) rfl (by decide) ?_
      refine go_iload_n C dX2_neighbor_122 rfl ?_
      refine go_S1P C ok_X2_z lk_X2_9 dX2_neighbor_123 (k_X2_z (by omega)) (by decide) (Nat.le_of_ble_eq_true rfl) ?_
      refine go_bipush C (nI 11) dX2_neighbor_126 rfl ?_
      refine go_icmp_geN C 138 dX2_neighbor_128 (by decide) (by omega) (by omega) (fun h128 => ?_) (fun h128 => ?_)
      · refine go_iconst C (-1) dX2_neighbor_138 rfl ?_
        refine go_iret hr dX2_neighbor_139 rfl ?_
        exact ⟨by simp only [nbr]; first | (rw [if_pos (by omega)]; rfl) | (rw [if_neg (by omega)]; rfl), rfl⟩
      · refine go_iload_n C dX2_neighbor_131 rfl ?_
        refine go_bipush C (nI 96) dX2_neighbor_132 rfl ?_
        refine go_iaddN C dX2_neighbor_134 ?_
        refine go_goto C 139 dX2_neighbor_135 (by decide) ?_
        refine go_iret hr dX2_neighbor_139 rfl ?_
        exact ⟨by simp only [nbr]; first | (rw [if_pos (by omega)]; rfl) | (rw [if_neg (by omega)]; rfl), rfl⟩
set_option maxHeartbeats 4000000 in
set_option maxRecDepth 100000 in
theorem k_X5_lossAt {σ : Mem} {w : Wd} (hO : OkW w) (hW : HasW σ 1 w) {k c : Nat} (hk : k < 1152) (hc : c < 4) : CtI objC NC yX5_lossAt cX5_lossAt 3 .int 0 0 [.ref 1, .int (nI k), .int (nI c)] σ (Pv (nI (lossN w c k)) σ) := by
  have ht := hO.1 k hk
  refine ct_ofI rfl ?_ (Nat.le_of_ble_eq_true rfl) (fun X C hr => ?_)
  · intro v hv; simp only [List.mem_cons, List.not_mem_nil, or_false] at hv; rcases hv with rfl | rfl | rfl <;> rfl
  · refine go_aload_n C dX5_lossAt_0 rfl ?_
    refine go_getR C gf_X5_15 dX5_lossAt_1 (by decide) rfl rfl ?_
    refine go_aload_n C dX5_lossAt_4 rfl ?_
    refine go_getR C gf_X5_9 dX5_lossAt_5 (by decide) rfl rfl ?_
    refine go_iload_n C dX5_lossAt_8 rfl ?_
    refine go_ialdN C dX5_lossAt_9 (by decide) rfl (by decide) (by omega) ?_
    refine go_top _ (hW.1 _ (by omega)) ?_
    refine go_iconst C (nI 4) dX5_lossAt_10 rfl ?_
    refine go_imulN C dX5_lossAt_11 ?_
    refine go_iload_n C dX5_lossAt_12 rfl ?_
    refine go_iaddN C dX5_lossAt_13 ?_
    refine go_ialdN C dX5_lossAt_14 (by decide) rfl (by decide) (by omega) ?_
    refine go_top _ (hW.2.1 _ (by omega)) ?_
    refine go_iret hr dX5_lossAt_15 rfl ?_
    exact ⟨congrArg nI (by unfold lossN; rw [Nat.mul_comm]), rfl⟩
set_option maxHeartbeats 4000000 in
set_option maxRecDepth 100000 in
theorem k_X5_emissionAt {σ : Mem} {w : Wd} (hO : OkW w) (hW : HasW σ 1 w) {k c : Nat} (hk : k < 1152) (hc : c < 4) : CtI objC NC yX5_emissionAt cX5_emissionAt 3 .int 0 0 [.ref 1, .int (nI k), .int (nI c)] σ (Pv (nI (emN w c k)) σ) := by
  have ht := hO.1 k hk
  refine ct_ofI rfl ?_ (Nat.le_of_ble_eq_true rfl) (fun X C hr => ?_)
  · intro v hv; simp only [List.mem_cons, List.not_mem_nil, or_false] at hv; rcases hv with rfl | rfl | rfl <;> rfl
  · refine go_aload_n C dX5_emissionAt_0 rfl ?_
    refine go_getR C gf_X5_18 dX5_emissionAt_1 (by decide) rfl rfl ?_
    refine go_aload_n C dX5_emissionAt_4 rfl ?_
    refine go_getR C gf_X5_9 dX5_emissionAt_5 (by decide) rfl rfl ?_
    refine go_iload_n C dX5_emissionAt_8 rfl ?_
    refine go_ialdN C dX5_emissionAt_9 (by decide) rfl (by decide) (by omega) ?_
    refine go_top _ (hW.1 _ (by omega)) ?_
    refine go_iconst C (nI 4) dX5_emissionAt_10 rfl ?_
    refine go_imulN C dX5_emissionAt_11 ?_
    refine go_iload_n C dX5_emissionAt_12 rfl ?_
    refine go_iaddN C dX5_emissionAt_13 ?_
    refine go_ialdN C dX5_emissionAt_14 (by decide) rfl (by decide) (by omega) ?_
    refine go_top _ (hW.2.2 _ (by omega)) ?_
    refine go_iret hr dX5_emissionAt_15 rfl ?_
    exact ⟨congrArg nI (by unfold emN; rw [Nat.mul_comm]), rfl⟩
/-- cells of a type other than 0 -/
noncomputable def filled (w : Wd) : Nat := cnt (fun j => wT w j ≠ 0) 1152
set_option maxHeartbeats 4000000 in
set_option maxRecDepth 100000 in
theorem k_X5_countFilled {σ : Mem} {w : Wd} (hO : OkW w) (hW : HasW σ 1 w) : CtI objC NC yX5_countFilled cX5_countFilled 3 .int 0 0 [.ref 1] σ (Pv (nI (filled w)) σ) := by
  refine ct_ofI rfl ?_ (Nat.le_of_ble_eq_true rfl) (fun X C hr => ?_)
  · intro v hv; simp only [List.mem_cons, List.not_mem_nil, or_false] at hv; rcases hv with rfl <;> rfl
  · have L : ∀ (n : Nat) (i : Nat), (i + n = 1152) → Go objC NC X 4 [some (.ref 1), some (.int (nI (cnt (fun j => wT w j ≠ 0) i))), some (.int (nI i))] [] σ := by
      intro n
      induction n using Nat.strongRecOn with
      | _ n ih =>
        intro i hi
        have hc := cnt_le (p := fun j => wT w j ≠ 0) i
        have ht : i < 1152 → wT w i < 8 := hO.1 i
        refine go_iload_n C dX5_countFilled_4 rfl ?_
        refine go_sipush C (nI 1152) dX5_countFilled_5 rfl ?_
        refine go_icmp_geN C 29 dX5_countFilled_8 (by decide) (by omega) (by omega) (fun h8 => ?_) (fun h8 => ?_)
        · refine go_iload_n C dX5_countFilled_29 rfl ?_
          refine go_iret hr dX5_countFilled_30 rfl ?_
          exact ⟨by rw [show i = 1152 by omega]; rfl, rfl⟩
        · refine go_aload_n C dX5_countFilled_11 rfl ?_
          refine go_getR C gf_X5_9 dX5_countFilled_12 (by decide) rfl rfl ?_
          refine go_iload_n C dX5_countFilled_15 rfl ?_
          refine go_ialdN C dX5_countFilled_16 (by decide) rfl (by decide) (by omega) ?_
          refine go_top _ (hW.1 _ (by omega)) ?_
          refine go_if_eqN C 23 dX5_countFilled_17 (by decide) (by omega) (fun h17 => ?_) (fun h17 => ?_)
          · refine go_iincN C 1 dX5_countFilled_23 rfl rfl (by decide) rfl rfl ?_
            refine go_goto C 4 dX5_countFilled_26 (by decide) ?_
            have q := ih (n - 1) (by omega) (i + 1) (by omega)
            first | (rw [show cnt (fun j => wT w j ≠ 0) (i + 1) = cnt (fun j => wT w j ≠ 0) i + 1 from congrArg (cnt (fun j => wT w j ≠ 0) i + ·) (pN_t (by omega))] at q; exact q) | (rw [show cnt (fun j => wT w j ≠ 0) (i + 1) = cnt (fun j => wT w j ≠ 0) i from congrArg (cnt (fun j => wT w j ≠ 0) i + ·) (pN_f (by omega))] at q; exact q)
          · refine go_iincN C 1 dX5_countFilled_20 rfl rfl (by decide) rfl rfl ?_
            refine go_iincN C 1 dX5_countFilled_23 rfl rfl (by decide) rfl rfl ?_
            refine go_goto C 4 dX5_countFilled_26 (by decide) ?_
            have q := ih (n - 1) (by omega) (i + 1) (by omega)
            first | (rw [show cnt (fun j => wT w j ≠ 0) (i + 1) = cnt (fun j => wT w j ≠ 0) i + 1 from congrArg (cnt (fun j => wT w j ≠ 0) i + ·) (pN_t (by omega))] at q; exact q) | (rw [show cnt (fun j => wT w j ≠ 0) (i + 1) = cnt (fun j => wT w j ≠ 0) i from congrArg (cnt (fun j => wT w j ≠ 0) i + ·) (pN_f (by omega))] at q; exact q)
    refine go_iconst C (nI 0) dX5_countFilled_0 rfl ?_
    refine go_istore_n C dX5_countFilled_1 (by decide) rfl rfl ?_
    refine go_iconst C (nI 0) dX5_countFilled_2 rfl ?_
    refine go_istore_n C dX5_countFilled_3 (by decide) rfl rfl ?_
    exact L 1152 0 (by omega)
end
section
/-! The lists of entries by levels, as the class holds them. -/
theorem dec_n {a : Nat} (h : 1 ≤ a) : nI a + Int32.ofInt (-1) = nI (a - 1) := by
  obtain ⟨b, rfl⟩ : ∃ b, a = b + 1 := ⟨a - 1, by omega⟩
  exact pk_m1 b
theorem dec_i (x : Int32) : x + Int32.ofInt (-1) = x - 1 := by rw [Int32.sub_eq_add_neg]; rfl
section GOO
variable {obj : Nat → Lay} {N : Nat} {cc : ByteArray} {nL : Nat} {own : String} {fr lo : Nat} {X : GX} {pc : Nat} {lv : List (Option Value)} {st : List Value} {σ : Mem} {o : Option Nat}
theorem oI_ne {j : Nat} (h : j < 2 ^ 31) : ¬ nI j = -1 := fun q => by
  have h1 : (nI j).toInt = (-1 : Int32).toInt := by rw [q]
  rw [nI_toInt h] at h1
  have h2 : (-1 : Int32).toInt = -1 := by decide
  omega
theorem go_icmp_eqO (C : OkX obj N cc nL own fr lo X) {off : Int} (tgt : Nat) (d : decode cc pc = .ok (.if_icmp .eq off, 3)) (ht : (pc : Int) + off = (tgt : Int)) (ho : ∀ j, o = some j → j < 2 ^ 31) (kt : o = none → Go obj N X tgt lv st σ) (kf : (∃ j, o = some j) → Go obj N X (pc + 3) lv st σ) : Go obj N X pc lv (.int (-1) :: .int (oI o) :: st) σ := go_icmp_eq C tgt d ht (fun h => kt (by
    cases o with
    | none => rfl
    | some j => exact absurd h (oI_ne (ho j rfl)))) (fun h => kf (by
    cases o with
    | none => exact absurd rfl h
    | some j => exact ⟨j, rfl⟩))
theorem go_icmp_neO (C : OkX obj N cc nL own fr lo X) {off : Int} (tgt : Nat) (d : decode cc pc = .ok (.if_icmp .ne off, 3)) (ht : (pc : Int) + off = (tgt : Int)) (ho : ∀ j, o = some j → j < 2 ^ 31) (kt : (∃ j, o = some j) → Go obj N X tgt lv st σ) (kf : o = none → Go obj N X (pc + 3) lv st σ) : Go obj N X pc lv (.int (-1) :: .int (oI o) :: st) σ := go_icmp_ne C tgt d ht (fun h => kt (by
    cases o with
    | none => exact absurd rfl h
    | some j => exact ⟨j, rfl⟩)) (fun h => kf (by
    cases o with
    | none => rfl
    | some j => exact absurd h (oI_ne (ho j rfl))))
end GOO
theorem sb_le {g l v : Nat} (hg : g < 2 ^ 30) (hl : l < 2 ^ 30) (hv : v < 2 ^ 30) : nI g - nI l ≤ nI v ↔ g ≤ v + l := by
  rw [Int32.le_iff_toInt_le, pk_sub_toInt hg hl, nI_toInt (by omega)]
  omega
def chn (nx ce : Nat → Int32) (E : Nat) : Int32 → List Nat → Prop
  | x, [] => x = -1
  | x, c :: cs => ∃ e, e < E ∧ x = nI e ∧ ce e = nI c ∧ chn nx ce E (nx e) cs
theorem chn_keep {nx ce nx' ce' : Nat → Int32} {E E' : Nat} (h : ∀ e, e < E → nx' e = nx e ∧ ce' e = ce e) (hE : E ≤ E') : ∀ (L : List Nat) (x : Int32), chn nx ce E x L → chn nx' ce' E' x L
  | [], _, q => q
  | c :: cs, x, ⟨e, q1, q2, q3, q4⟩ => ⟨e, Nat.lt_of_lt_of_le q1 hE, q2, by rw [(h e q1).2]; exact q3, by rw [(h e q1).1]; exact chn_keep h hE cs _ q4⟩
def FrL (σ τ : Mem) : Prop := ∀ q, q ≠ 10 → q ≠ 11 → q ≠ 12 → q ≠ 13 → q ≠ 14 → τ q = σ q
theorem FrL.refl {σ : Mem} : FrL σ σ := fun _ _ _ _ _ _ => rfl
theorem FrL.trans {σ τ ρ : Mem} (h1 : FrL σ τ) (h2 : FrL τ ρ) : FrL σ ρ := fun q a b c d e => (h2 q a b c d e).trans (h1 q a b c d e)
theorem FrL.W {σ τ : Mem} (h : FrL σ τ) {w : Wd} (hW : HasW σ 1 w) : HasW τ 1 w := hW.of (h 2 (by decide) (by decide) (by decide) (by decide) (by decide)) (h 3 (by decide) (by decide) (by decide) (by decide) (by decide)) (h 4 (by decide) (by decide) (by decide) (by decide) (by decide))
def kpE (σ τ : Mem) (E : Nat) : Prop := ∀ e, e < E → τ 12 e = σ 12 e ∧ τ 13 e = σ 13 e
/-- the entries: E of them, of the cells S, whose lights are f; those of level v are G v -/
def Ent (σ : Mem) (S : Nat → Prop) (f : Nat → Nat) (G : Nat → List Nat) (E : Nat) : Prop :=
  E ≤ 2304 ∧ σ 10 3 = nI E ∧ (∀ j, j < 1152 → S j → σ 14 j = nI (f j) ∧ f j < 16) ∧ (∀ v, v < 16 → chn (σ 12) (σ 13) E (σ 11 v) (G v) ∧ (G v).length ≤ E ∧ ∀ c, c ∈ G v → c < 1152) ∧ ∀ j, j < 1152 → S j → 0 < f j → j ∈ G (f j)
theorem Ent.c {σ : Mem} {S S' : Nat → Prop} {f f' : Nat → Nat} {G : Nat → List Nat} {E : Nat} (h : Ent σ S f G E) (hS : ∀ j, j < 1152 → S' j → S j) (hf : ∀ j, j < 1152 → S' j → f' j = f j) : Ent σ S' f' G E :=
  ⟨h.1, h.2.1, fun j hj q => by rw [hf j hj q]; exact h.2.2.1 j hj (hS j hj q), h.2.2.2.1, fun j hj q => by rw [hf j hj q]; exact h.2.2.2.2 j hj (hS j hj q)⟩
theorem ent_0 {σ τ : Mem} {S : Nat → Prop} {f : Nat → Nat} {G : Nat → List Nat} {E k : Nat} (h : Ent σ S f G E) (hk : k < 1152) (h14 : τ 14 = upd (σ 14) k (nI 0)) (h13 : τ 13 = σ 13) (h12 : τ 12 = σ 12) (h11 : τ 11 = σ 11) (h10 : τ 10 = σ 10) : Ent τ (fun j => S j ∨ j = k) (un f k 0) G E := by
  obtain ⟨a1, a2, a3, a4, a5⟩ := h
  refine ⟨a1, by rw [h10]; exact a2, fun j hj hs => ?_, fun v hv => by rw [h11, h12, h13]; exact a4 v hv, fun j hj hs h0 => ?_⟩
  · rw [h14]
    by_cases e : j = k
    · subst e; rw [pk_us, un_s]; exact ⟨rfl, by decide⟩
    · rw [pk_un e, un_n e]; exact a3 j hj (hs.resolve_right e)
  · by_cases e : j = k
    · subst e; rw [un_s] at h0; omega
    · rw [un_n e] at h0 ⊢; exact a5 j hj (hs.resolve_right e) h0
theorem ent_1 {σ τ : Mem} {S : Nat → Prop} {f : Nat → Nat} {G : Nat → List Nat} {E k v : Nat} (h : Ent σ S f G E) (hk : k < 1152) (hv0 : 0 < v) (hv : v < 16) (hE : E < 2304) (h14 : τ 14 = upd (σ 14) k (nI v)) (h13 : τ 13 = upd (σ 13) E (nI k)) (h12 : τ 12 = upd (σ 12) E (σ 11 v)) (h11 : τ 11 = upd (σ 11) v (nI E)) (h10 : τ 10 3 = nI (E + 1)) :
    Ent τ (fun j => S j ∨ j = k) (un f k v) (fun u => if u = v then k :: G v else G u) (E + 1) ∧ kpE σ τ E := by
  obtain ⟨a1, a2, a3, a4, a5⟩ := h
  have kp : kpE σ τ E := fun e he => by rw [h12, h13, pk_un (by omega), pk_un (by omega)]; exact ⟨rfl, rfl⟩
  refine ⟨⟨hE, h10, fun j hj hs => ?_, fun u hu => ?_, fun j hj hs h0 => ?_⟩, kp⟩
  · rw [h14]
    by_cases e : j = k
    · subst e; rw [pk_us, un_s]; exact ⟨rfl, hv⟩
    · rw [pk_un e, un_n e]; exact a3 j hj (hs.resolve_right e)
  · obtain ⟨b1, b2, b3⟩ := a4 u hu
    by_cases e : u = v
    · subst e
      simp only [if_pos]
      refine ⟨⟨E, by omega, by rw [h11, pk_us], by rw [h13, pk_us], ?_⟩, ?_, fun c hc => ?_⟩
      · rw [h12, pk_us]
        exact chn_keep (fun e he => by rw [pk_un (by omega)]; exact ⟨rfl, (kp e he).2⟩) (by omega) _ _ b1
      · show (k :: G u).length ≤ E + 1; rw [List.length_cons]; omega
      · rcases List.mem_cons.mp hc with rfl | q
        · exact hk
        · exact b3 c q
    · simp only [if_neg e]
      refine ⟨?_, by omega, b3⟩
      rw [h11, pk_un e]
      exact chn_keep kp (by omega) _ _ b1
  · by_cases e : j = k
    · subst e; rw [un_s]; simp
    · rw [un_n e] at h0 ⊢
      have := a5 j hj (hs.resolve_right e) h0
      show j ∈ (if f j = v then k :: G v else G (f j))
      by_cases e2 : f j = v
      · rw [if_pos e2, ← e2]; exact List.mem_cons_of_mem _ this
      · rw [if_neg e2]; exact this
theorem un_id {f : Nat → Nat} {k : Nat} : un f k (f k) = f := funext fun j => by
  by_cases e : j = k
  · subst e; exact un_s
  · exact un_n e
def Rz (rz : Nat → Prop) (E : Nat) (f ls : Nat → Nat) (lv : Nat) : Prop := E ≤ 1152 + cnt rz 1152 ∧ ∀ q, q < 1152 → rz q → lv ≤ f q + 1 + ls q
/-- what the giving of one cell leaves -/
def Gv (σ τ : Mem) (src ls : Nat → Nat) (lv : Nat) (f : Nat → Nat) (E : Nat) (D : Nat → Nat → Prop) : Prop :=
  ∃ (f' : Nat → Nat) (G' : Nat → List Nat) (E' : Nat) (rz' : Nat → Prop), PI src ls lv f' D ∧ Ent τ (fun _ => True) f' G' E' ∧ Rz rz' E' f' ls lv ∧ kpE σ τ E ∧ E ≤ E' ∧ FrL σ τ ∧ ∀ q, q < 1152 → f' q = lv → f q = lv
end
section
def EntP (σ : Mem) (S : Nat → Prop) (f : Nat → Nat) (E k v : Nat) : Mem → Prop := fun τ => ∃ (G' : Nat → List Nat) (E' : Nat), Ent τ (fun j => S j ∨ j = k) (un f k v) G' E' ∧ (v = 0 → E' = E) ∧ E' ≤ E + 1 ∧ E ≤ E' ∧ kpE σ τ E ∧ FrL σ τ
set_option maxHeartbeats 4000000 in
set_option maxRecDepth 100000 in
theorem k_X4_enter {σ : Mem} {S : Nat → Prop} {f : Nat → Nat} {G : Nat → List Nat} {E k v : Nat} (hE : Ent σ S f G E) (hk : k < 1152) (hv : v < 16) (hlt : 0 < v → E < 2304) : CtV objC NC yX4_enter cX4_enter 4 0 0 [.ref 10, .int (nI k), .int (nI v), .ref 14] σ (EntP σ S f E k v) := by
  have hE0 := hE.1
  refine ct_ofV rfl ?_ (Nat.le_of_ble_eq_true rfl) (fun X C hr => ?_)
  · intro v hv; simp only [List.mem_cons, List.not_mem_nil, or_false] at hv; rcases hv with rfl | rfl | rfl | rfl <;> rfl
  · refine go_aload_n C dX4_enter_0 rfl ?_
    refine go_iload_n C dX4_enter_1 rfl ?_
    refine go_iload_n C dX4_enter_2 rfl ?_
    refine go_iastN C dX4_enter_3 (by decide) rfl (by decide) (by omega) ?_
    refine go_iload_n C dX4_enter_4 rfl ?_
    refine go_if_leN C 69 dX4_enter_5 (by decide) (by omega) (fun h5 => ?_) (fun h5 => ?_)
    · obtain rfl : v = 0 := by omega
      refine go_vret hr dX4_enter_69 ?_
      exact ⟨G, E, ent_0 hE hk rfl rfl rfl rfl rfl, fun _ => rfl, by omega, Nat.le_refl _, fun _ _ => ⟨rfl, rfl⟩, fun q a b c d e => by simp only [updR, a, b, c, d, e, if_false]⟩
    · refine go_iload_n C dX4_enter_8 rfl ?_
      refine go_bipush C (nI 15) dX4_enter_9 rfl ?_
      refine go_icmp_gtN C 69 dX4_enter_11 (by decide) (by omega) (by omega) (fun h11 => ?_) (fun h11 => ?_)
      · exact absurd h11 (by omega)
      · refine go_aload_n C dX4_enter_14 rfl ?_
        refine go_getI C gf_X4_21 dX4_enter_15 (by decide) rfl rfl ?_
        refine go_top (nI E) (show _ = _ from hE.2.1) ?_
        refine go_sipush C (nI 2304) dX4_enter_18 rfl ?_
        refine go_icmp_geN C 69 dX4_enter_21 (by decide) (by omega) (by omega) (fun h21 => ?_) (fun h21 => ?_)
        · exact absurd h21 (by omega)
        · refine go_aload_n C dX4_enter_24 rfl ?_
          refine go_getR C gf_X4_18 dX4_enter_25 (by decide) rfl rfl ?_
          refine go_aload_n C dX4_enter_28 rfl ?_
          refine go_getI C gf_X4_21 dX4_enter_29 (by decide) rfl rfl ?_
          refine go_top (nI E) (show _ = _ from hE.2.1) ?_
          refine go_iload_n C dX4_enter_32 rfl ?_
          refine go_iastN C dX4_enter_33 (by decide) rfl (by decide) (by omega) ?_
          refine go_aload_n C dX4_enter_34 rfl ?_
          refine go_getR C gf_X4_15 dX4_enter_35 (by decide) rfl rfl ?_
          refine go_aload_n C dX4_enter_38 rfl ?_
          refine go_getI C gf_X4_21 dX4_enter_39 (by decide) rfl rfl ?_
          refine go_top (nI E) (show _ = _ from hE.2.1) ?_
          refine go_aload_n C dX4_enter_42 rfl ?_
          refine go_getR C gf_X4_9 dX4_enter_43 (by decide) rfl rfl ?_
          refine go_iload_n C dX4_enter_46 rfl ?_
          refine go_ialdN C dX4_enter_47 (by decide) rfl (by decide) (by omega) ?_
          refine go_iastN C dX4_enter_48 (by decide) rfl (by decide) (by omega) ?_
          refine go_aload_n C dX4_enter_49 rfl ?_
          refine go_getR C gf_X4_9 dX4_enter_50 (by decide) rfl rfl ?_
          refine go_iload_n C dX4_enter_53 rfl ?_
          refine go_aload_n C dX4_enter_54 rfl ?_
          refine go_getI C gf_X4_21 dX4_enter_55 (by decide) rfl rfl ?_
          refine go_top (nI E) (show _ = _ from hE.2.1) ?_
          refine go_iastN C dX4_enter_58 (by decide) rfl (by decide) (by omega) ?_
          refine go_aload_n C dX4_enter_59 rfl ?_
          refine go_dup C dX4_enter_60 rfl ?_
          refine go_getI C gf_X4_21 dX4_enter_61 (by decide) rfl rfl ?_
          refine go_top (nI E) (show _ = _ from hE.2.1) ?_
          refine go_iconst C (nI 1) dX4_enter_64 rfl ?_
          refine go_iaddN C dX4_enter_65 ?_
          refine go_putI C gf_X4_21 dX4_enter_66 (by decide) rfl rfl rfl rfl rfl ?_
          refine go_vret hr dX4_enter_69 ?_
          exact ⟨_, E + 1, (ent_1 hE hk (by omega) hv (hlt (by omega)) rfl rfl rfl rfl rfl).1, fun e => absurd e (by omega), Nat.le_refl _, by omega, (ent_1 hE hk (by omega) hv (hlt (by omega)) rfl rfl rfl rfl rfl).2, fun q a b c d e => by simp only [updR, a, b, c, d, e, if_false]⟩
set_option maxHeartbeats 4000000 in
set_option maxRecDepth 100000 in
theorem k_X4_give {σ : Mem} {w : Wd} (hO : OkW w) (hW : HasW σ 1 w) {c m lv : Nat} {src f : Nat → Nat} {G : Nat → List Nat} {E : Nat} {rz : Nat → Prop} {D : Nat → Nat → Prop} (hc : c < 4) (hm : m < 1152) (hlv : 2 ≤ lv) (hfm : f m = lv) (hE : Ent σ (fun _ => True) f G E) (hP : PI src (lossN w c) lv f D) (hR : Rz rz E f (lossN w c) lv) : CtV objC NC yX4_give cX4_give 9 2 41 [.ref 10, .ref 1, .int (nI c), .int (nI m), .ref 14] σ (fun τ => Gv σ τ src (lossN w c) lv f E (fun a b => D a b ∨ (a = m ∧ ∃ d', nbr m d' = some b))) := by
  have h15 : lv ≤ 15 := by rw [← hfm]; have := (hE.2.2.1 m hm trivial).2; omega
  refine ct_ofV rfl ?_ (Nat.le_of_ble_eq_true rfl) (fun X C hr => ?_)
  · intro v hv; simp only [List.mem_cons, List.not_mem_nil, or_false] at hv; rcases hv with rfl | rfl | rfl | rfl | rfl <;> rfl
  · have L : ∀ (n : Nat) (d : Nat) (ρ : Mem) (f1 : Nat → Nat) (G1 : Nat → List Nat) (E1 : Nat) (rz1 : Nat → Prop) (v7 : Option Value) (v8 : Option Value), (d + n = 6) → (f1 m = lv) → (PI src (lossN w c) lv f1 (fun a b => D a b ∨ (a = m ∧ ∃ d', d' < d ∧ nbr m d' = some b))) → (Ent ρ (fun _ => True) f1 G1 E1) → (Rz rz1 E1 f1 (lossN w c) lv) → (kpE σ ρ E) → (E ≤ E1) → (FrL σ ρ) → (∀ q, q < 1152 → f1 q = lv → f q = lv) → Go objC NC X 11 [some (.ref 10), some (.ref 1), some (.int (nI c)), some (.int (nI m)), some (.ref 14), some (.int (nI (lv - 1))), some (.int (nI d)), v7, v8] [] ρ := by
      intro n
      induction n using Nat.strongRecOn with
      | _ n ih =>
        intro d ρ f1 G1 E1 rz1 v7 v8 hd hfm1 hP1 hE1 hR1 hk1 hEE hF1 hq
        have hW1 := hF1.W hW
        refine go_iload C dX4_give_11 rfl ?_
        refine go_bipush C (nI 6) dX4_give_13 rfl ?_
        refine go_icmp_geN C 80 dX4_give_15 (by decide) (by omega) (by omega) (fun h15 => ?_) (fun h15 => ?_)
        · refine go_vret hr dX4_give_80 ?_
          obtain rfl : d = 6 := by omega
          exact ⟨f1, G1, E1, rz1, PI_mono hP1 (fun a b q => q.elim Or.inl (fun q => Or.inr ⟨q.1, q.2.choose, nbr_d q.2.choose_spec, q.2.choose_spec⟩)), hE1, hR1, hk1, hEE, hF1, hq⟩
        · refine go_iload_n C dX4_give_18 rfl ?_
          refine go_iload C dX4_give_19 rfl ?_
          refine go_S2P C ok_X2_neighbor lk_X4_55 dX4_give_21 (k_X2_neighbor (by omega) (by omega)) (by decide) (Nat.le_of_ble_eq_true rfl) ?_
          refine go_istore C dX4_give_24 (by decide) rfl rfl ?_
          refine go_iload C dX4_give_26 rfl ?_
          refine go_iconst C (-1) dX4_give_28 rfl ?_
          refine go_icmp_eqO C 74 dX4_give_29 (by decide) (fun j hj => by have := nbr_lt hm hj; omega) (fun h29 => ?_) (fun h29 => ?_)
          · skip
            refine go_iincN C 1 dX4_give_74 rfl rfl (by decide) rfl rfl ?_
            refine go_goto C 11 dX4_give_77 (by decide) ?_
            exact ih (n - 1) (by omega) (d + 1) ρ f1 G1 E1 rz1 _ _ (by omega) hfm1 (PI_mono hP1 (fun x y q => q.elim Or.inl (fun q => by
                obtain ⟨q1, d', q2, q3⟩ := q
                rcases Nat.lt_or_ge d' d with q4 | q4
                · exact Or.inr ⟨q1, d', q4, q3⟩
                · obtain rfl : d' = d := by omega
                  rw [h29] at q3; cases q3))) hE1 hR1 hk1 hEE hF1 hq
          · obtain ⟨b, hb⟩ := h29
            rw [hb]
            have hbl := nbr_lt hm hb
            have hl16 := lossN_lt hO hc hbl
            have hf16 := (hE1.2.2.1 b hbl trivial).2
            dsimp only [oI]
            refine go_aload C dX4_give_32 rfl ?_
            refine go_iload C dX4_give_34 rfl ?_
            refine go_ialdN C dX4_give_36 (by decide) rfl (by decide) (by omega) ?_
            refine go_top _ (hE1.2.2.1 _ (by omega) trivial).1 ?_
            refine go_iload C dX4_give_37 rfl ?_
            refine go_icmp_geN C 74 dX4_give_39 (by decide) (by omega) (by omega) (fun h39 => ?_) (fun h39 => ?_)
            · skip
              refine go_iincN C 1 dX4_give_74 rfl rfl (by decide) rfl rfl ?_
              refine go_goto C 11 dX4_give_77 (by decide) ?_
              have hr : rse f1 (lossN w c) lv b = f1 := by unfold rse; rw [Nat.max_eq_left (by omega)]; exact un_id
              have hp2 := PI_rse hP1 (by omega) hm hfm1 hb
              rw [hr] at hp2
              exact ih (n - 1) (by omega) (d + 1) ρ f1 G1 E1 rz1 _ _ (by omega) hfm1 (PI_mono hp2 (fun x y q => q.elim (fun q => Or.inl (Or.inl q)) (fun q => by
                obtain ⟨q1, d', q2, q3⟩ := q
                rcases Nat.lt_or_ge d' d with q4 | q4
                · exact Or.inl (Or.inr ⟨q1, d', q4, q3⟩)
                · obtain rfl : d' = d := by omega
                  rw [hb] at q3; cases q3; exact Or.inr ⟨q1, rfl⟩))) hE1 hR1 hk1 hEE hF1 hq
            · refine go_iload C dX4_give_42 rfl ?_
              refine go_aload_n C dX4_give_44 rfl ?_
              refine go_iload C dX4_give_45 rfl ?_
              refine go_iload_n C dX4_give_47 rfl ?_
              refine go_V2P C ok_X5_lossAt lk_X4_52 dX4_give_48 (by decide) rfl rfl rfl (k_X5_lossAt hO hW1 (by omega) hc) (by decide) (Nat.le_of_ble_eq_true rfl) ?_
              refine go_isub C dX4_give_51 ?_
              refine go_istore C dX4_give_52 (by decide) rfl rfl ?_
              refine go_iload C dX4_give_54 rfl ?_
              refine go_aload C dX4_give_56 rfl ?_
              refine go_iload C dX4_give_58 rfl ?_
              refine go_ialdN C dX4_give_60 (by decide) rfl (by decide) (by omega) ?_
              refine go_top _ (hE1.2.2.1 _ (by omega) trivial).1 ?_
              refine go_icmp_le C 74 dX4_give_61 (by decide) (fun h61 => ?_) (fun h61 => ?_)
              · rw [sb_le (by omega) (by omega) (by omega)] at h61
                refine go_iincN C 1 dX4_give_74 rfl rfl (by decide) rfl rfl ?_
                refine go_goto C 11 dX4_give_77 (by decide) ?_
                have hr : rse f1 (lossN w c) lv b = f1 := by unfold rse; rw [Nat.max_eq_left (by omega)]; exact un_id
                have hp2 := PI_rse hP1 (by omega) hm hfm1 hb
                rw [hr] at hp2
                exact ih (n - 1) (by omega) (d + 1) ρ f1 G1 E1 rz1 _ _ (by omega) hfm1 (PI_mono hp2 (fun x y q => q.elim (fun q => Or.inl (Or.inl q)) (fun q => by
                obtain ⟨q1, d', q2, q3⟩ := q
                rcases Nat.lt_or_ge d' d with q4 | q4
                · exact Or.inl (Or.inr ⟨q1, d', q4, q3⟩)
                · obtain rfl : d' = d := by omega
                  rw [hb] at q3; cases q3; exact Or.inr ⟨q1, rfl⟩))) hE1 hR1 hk1 hEE hF1 hq
              · rw [sb_le (by omega) (by omega) (by omega)] at h61
                have e : nI (lv - 1) - nI (lossN w c b) = nI (lv - 1 - lossN w c b) := pk_sub (by omega)
                rw [e]
                have hnr : ¬ rz1 b := fun q => by have := hR1.2 b hbl q; omega
                have hcl := cnt_lt hnr hbl
                have hR1E := hR1.1
                refine go_aload_n C dX4_give_64 rfl ?_
                refine go_iload C dX4_give_65 rfl ?_
                refine go_iload C dX4_give_67 rfl ?_
                refine go_aload C dX4_give_69 rfl ?_
                refine go_V3V C ok_X4_enter lk_X4_42 dX4_give_71 (by decide) rfl rfl rfl (k_X4_enter hE1 hbl (by omega) (by omega)) (by decide) (Nat.le_of_ble_eq_true rfl) (fun τ hp => ?_)
                refine go_iincN C 1 dX4_give_74 rfl rfl (by decide) rfl rfl ?_
                refine go_goto C 11 dX4_give_77 (by decide) ?_
                have hr : un f1 b (lv - 1 - lossN w c b) = rse f1 (lossN w c) lv b := by unfold rse; rw [Nat.max_eq_right (by omega)]
                have hp2 := PI_rse hP1 (by omega) hm hfm1 hb
                obtain ⟨G2, E2, q1, q2, q3, q4, q5, q6⟩ := hp
                rw [hr] at q1
                exact ih (n - 1) (by omega) (d + 1) τ (rse f1 (lossN w c) lv b) G2 E2 (fun j => j = b ∨ rz1 j) _ _ (by omega) (by rw [rse_hi2 (by omega) (by omega)]; exact hfm1) (PI_mono hp2 (fun x y q => q.elim (fun q => Or.inl (Or.inl q)) (fun q => by
                obtain ⟨q1, d', q2, q3⟩ := q
                rcases Nat.lt_or_ge d' d with q4 | q4
                · exact Or.inl (Or.inr ⟨q1, d', q4, q3⟩)
                · obtain rfl : d' = d := by omega
                  rw [hb] at q3; cases q3; exact Or.inr ⟨q1, rfl⟩))) (q1.c (fun _ _ _ => Or.inl trivial) (fun _ _ _ => rfl)) ⟨by have := cnt_add (p := rz1) (q := fun j => j = b ∨ rz1 j) hnr (Or.inl rfl) (fun j hj => ⟨Or.inr, fun q => q.elim (fun e => absurd e hj) id⟩) 1152 hbl; have := hR1.1; omega, fun x hx hz => by
                rcases hz with rfl | hz
                · unfold rse; rw [un_s]; have := Nat.le_max_right (f1 x) (lv - 1 - lossN w c x); omega
                · exact Nat.le_trans (hR1.2 x hx hz) (by have := rse_ge (f := f1) (ls := lossN w c) (lv := lv) (n := b) x; omega)⟩ (fun e he => ⟨(q5 e (Nat.lt_of_lt_of_le he hEE)).1.trans (hk1 e he).1, (q5 e (Nat.lt_of_lt_of_le he hEE)).2.trans (hk1 e he).2⟩) (Nat.le_trans hEE q4) (hF1.trans q6) (fun x hx hz => hq x hx (by rw [rse_hi (by omega) (by omega)] at hz; exact hz))
    refine go_aload C dX4_give_0 rfl ?_
    refine go_iload_n C dX4_give_2 rfl ?_
    refine go_ialdN C dX4_give_3 (by decide) rfl (by decide) (by omega) ?_
    refine go_top (nI lv) (by rw [← hfm]; exact (hE.2.2.1 m hm trivial).1) ?_
    refine go_iconst C (nI 1) dX4_give_4 rfl ?_
    refine go_isubN C dX4_give_5 (by omega) ?_
    refine go_istore C dX4_give_6 (by decide) rfl rfl ?_
    refine go_iconst C (nI 0) dX4_give_8 rfl ?_
    refine go_istore C dX4_give_9 (by decide) rfl rfl ?_
    exact L 6 0 σ f G E rz none none (by omega) hfm ⟨hP.1, hP.2.1, hP.2.2.1, fun a b q => q.elim (hP.2.2.2 a b) (fun q => absurd q.2.choose_spec.1 (Nat.not_lt_zero _))⟩ hE hR (fun _ _ => ⟨rfl, rfl⟩) (Nat.le_refl _) FrL.refl (fun _ _ h => h)
end
section
theorem un_ide {f : Nat → Nat} {k v : Nat} (h : v = f k) : un f k v = f := by rw [h]; exact un_id
set_option maxHeartbeats 4000000 in
set_option maxRecDepth 100000 in
theorem k_X4_enterEmissions {σ : Mem} {w : Wd} (hO : OkW w) (hW : HasW σ 1 w) {c q : Nat} (hc : c < 4) (hc3 : c ≠ 3) {u : Int32} (hu : ∀ k, k < 1152 → (nI k = u ↔ k = q)) {G : Nat → List Nat} (hE : Ent σ (fun _ => False) (srcQ w c q 0) G 0) : CtV objC NC yX4_enterEmissions cX4_enterEmissions 6 1 23 [.ref 10, .ref 1, .int (nI c), .int u, .ref 14] σ (fun τ => ∃ (G' : Nat → List Nat) (E' : Nat), Ent τ (fun _ => True) (srcQ w c q 0) G' E' ∧ E' ≤ 1152 ∧ FrL σ τ) := by
  refine ct_ofV rfl ?_ (Nat.le_of_ble_eq_true rfl) (fun X C hr => ?_)
  · intro v hv; simp only [List.mem_cons, List.not_mem_nil, or_false] at hv; rcases hv with rfl | rfl | rfl | rfl | rfl <;> rfl
  · have L : ∀ (n : Nat) (i : Nat) (ρ : Mem) (G1 : Nat → List Nat) (E1 : Nat), (i + n = 1152) → (Ent ρ (fun j => j < i) (srcQ w c q 0) G1 E1) → (E1 ≤ i) → (FrL σ ρ) → Go objC NC X 3 [some (.ref 10), some (.ref 1), some (.int (nI c)), some (.int u), some (.ref 14), some (.int (nI i))] [] ρ := by
      intro n
      induction n using Nat.strongRecOn with
      | _ n ih =>
        intro i ρ G1 E1 hi hE1 hEi hF1
        have hW1 := hF1.W hW
        refine go_iload C dX4_enterEmissions_3 rfl ?_
        refine go_sipush C (nI 1152) dX4_enterEmissions_5 rfl ?_
        refine go_icmp_geN C 42 dX4_enterEmissions_8 (by decide) (by omega) (by omega) (fun h8 => ?_) (fun h8 => ?_)
        · refine go_vret hr dX4_enterEmissions_42 ?_
          obtain rfl : i = 1152 := by omega
          exact ⟨G1, E1, hE1.c (fun j hj _ => hj) (fun _ _ _ => rfl), hEi, hF1⟩
        · refine go_aload_n C dX4_enterEmissions_11 rfl ?_
          refine go_iload C dX4_enterEmissions_12 rfl ?_
          refine go_iload C dX4_enterEmissions_14 rfl ?_
          refine go_iload_n C dX4_enterEmissions_16 rfl ?_
          refine go_icmp_ne C 24 dX4_enterEmissions_17 (by decide) (fun h17 => ?_) (fun h17 => ?_)
          · have he : emN w c i < 16 := emN_lt hO hc (by omega)
            have hv : emN w c i = srcQ w c q 0 i := by unfold srcQ; rw [if_neg hc3, if_neg (fun e => h17 ((hu i (by omega)).mpr e))]
            refine go_aload_n C dX4_enterEmissions_24 rfl ?_
            refine go_iload C dX4_enterEmissions_25 rfl ?_
            refine go_iload_n C dX4_enterEmissions_27 rfl ?_
            refine go_V2P C ok_X5_emissionAt lk_X4_36 dX4_enterEmissions_28 (by decide) rfl rfl rfl (k_X5_emissionAt hO hW1 (by omega) hc) (by decide) (Nat.le_of_ble_eq_true rfl) ?_
            refine go_aload C dX4_enterEmissions_31 rfl ?_
            refine go_V3V C ok_X4_enter lk_X4_42 dX4_enterEmissions_33 (by decide) rfl rfl rfl (k_X4_enter hE1 (by omega) (by omega) (by omega)) (by decide) (Nat.le_of_ble_eq_true rfl) (fun τ hp => ?_)
            refine go_iincN C 1 dX4_enterEmissions_36 rfl rfl (by decide) rfl rfl ?_
            refine go_goto C 3 dX4_enterEmissions_39 (by decide) ?_
            obtain ⟨G2, E2, q1, q2, q3, q4, q5, q6⟩ := hp
            rw [un_ide hv] at q1
            exact ih (n - 1) (by omega) (i + 1) τ G2 E2 (by omega) (q1.c (fun j _ h => by rcases Nat.lt_or_ge j i with h1 | h1; exact Or.inl h1; exact Or.inr (by omega)) (fun _ _ _ => rfl)) (by omega) (hF1.trans q6)
          · have hv : 0 = srcQ w c q 0 i := by unfold srcQ; rw [if_neg hc3, if_pos ((hu i (by omega)).mp h17)]
            refine go_iconst C (nI 0) dX4_enterEmissions_20 rfl ?_
            refine go_goto C 31 dX4_enterEmissions_21 (by decide) ?_
            refine go_aload C dX4_enterEmissions_31 rfl ?_
            refine go_V3V C ok_X4_enter lk_X4_42 dX4_enterEmissions_33 (by decide) rfl rfl rfl (k_X4_enter hE1 (by omega) (by omega) (by omega)) (by decide) (Nat.le_of_ble_eq_true rfl) (fun τ hp => ?_)
            refine go_iincN C 1 dX4_enterEmissions_36 rfl rfl (by decide) rfl rfl ?_
            refine go_goto C 3 dX4_enterEmissions_39 (by decide) ?_
            obtain ⟨G2, E2, q1, q2, q3, q4, q5, q6⟩ := hp
            rw [un_ide hv] at q1
            exact ih (n - 1) (by omega) (i + 1) τ G2 E2 (by omega) (q1.c (fun j _ h => by rcases Nat.lt_or_ge j i with h1 | h1; exact Or.inl h1; exact Or.inr (by omega)) (fun _ _ _ => rfl)) (by omega) (hF1.trans q6)
    refine go_iconst C (nI 0) dX4_enterEmissions_0 rfl ?_
    refine go_istore C dX4_enterEmissions_1 (by decide) rfl rfl ?_
    exact L 1152 0 σ G 0 (by omega) (hE.c (fun j _ h => absurd h (Nat.not_lt_zero j)) (fun _ _ _ => rfl)) (Nat.le_refl _) FrL.refl
def Sp (z y8 x j : Nat) : Prop := cZ j < z ∨ (cZ j = z ∧ (y8 ≤ cY j ∨ (cY j + 1 = y8 ∧ cX j < x)))
set_option maxHeartbeats 4000000 in
set_option maxRecDepth 100000 in
theorem k_X4_enterSun {σ : Mem} {w : Wd} (hO : OkW w) (hW : HasW σ 1 w) {q : Nat} {G : Nat → List Nat} (hE : Ent σ (fun _ => False) (srcQ w 3 q 0) G 0) : CtV objC NC yX4_enterSun cX4_enterSun 8 1 23 [.ref 10, .ref 1, .ref 14] σ (fun τ => ∃ (G' : Nat → List Nat) (E' : Nat), Ent τ (fun _ => True) (srcQ w 3 q 0) G' E' ∧ E' ≤ 1152 ∧ FrL σ τ) := by
  refine ct_ofV rfl ?_ (Nat.le_of_ble_eq_true rfl) (fun X C hr => ?_)
  · intro v hv; simp only [List.mem_cons, List.not_mem_nil, or_false] at hv; rcases hv with rfl | rfl | rfl <;> rfl
  · have L : ∀ (n : Nat) (z : Nat) (ρ : Mem) (G1 : Nat → List Nat) (E1 : Nat) (v4 : Option Value) (v5 : Option Value) (v6 : Option Value) (v7 : Option Value), (z + n = 12) → (Ent ρ (Sp z 8 0) (srcQ w 3 q 0) G1 E1) → (E1 ≤ 96 * z) → (FrL σ ρ) → Go objC NC X 2 [some (.ref 10), some (.ref 1), some (.ref 14), some (.int (nI z)), v4, v5, v6, v7] [] ρ := by
      intro n
      induction n using Nat.strongRecOn with
      | _ n ih =>
        intro z ρ G1 E1 v4 v5 v6 v7 hz hE1 hEz hF1
        refine go_iload_n C dX4_enterSun_2 rfl ?_
        refine go_bipush C (nI 12) dX4_enterSun_3 rfl ?_
        refine go_icmp_geN C 116 dX4_enterSun_5 (by decide) (by omega) (by omega) (fun h5 => ?_) (fun h5 => ?_)
        · refine go_vret hr dX4_enterSun_116 ?_
          obtain rfl : z = 12 := by omega
          exact ⟨G1, E1, hE1.c (fun j hj _ => Or.inl (cZ_lt hj)) (fun _ _ _ => rfl), by omega, hF1⟩
        · have hz12 : z < 12 := by omega
          have Ly : ∀ (ny : Nat) (y8 : Nat) (ρ2 : Mem) (G2 : Nat → List Nat) (E2 : Nat) (v5 : Option Value) (v6 : Option Value) (v7 : Option Value), (y8 = ny ∧ y8 ≤ 8) → (Ent ρ2 (Sp z y8 0) (srcQ w 3 q 0) G2 E2) → (E2 ≤ 96 * z + 12 * (8 - y8)) → (FrL σ ρ2) → Go objC NC X 12 [some (.ref 10), some (.ref 1), some (.ref 14), some (.int (nI z)), some (.int (nI y8 - 1)), v5, v6, v7] [] ρ2 := by
                      intro ny
                      induction ny using Nat.strongRecOn with
                      | _ ny ihy =>
                        intro y8 ρ2 G2 E2 v5 v6 v7 hy hE2 hEy hF2
                        rcases Nat.eq_zero_or_pos y8 with h0 | h0
                        · subst h0
                          refine go_iload C dX4_enterSun_12 rfl ?_
                          refine go_if_lt C 110 dX4_enterSun_14 (by decide) (fun h14 => ?_) (fun h14 => ?_)
                          · refine go_iincN C 1 dX4_enterSun_110 rfl rfl (by decide) rfl rfl ?_
                            refine go_goto C 2 dX4_enterSun_113 (by decide) ?_
                            exact ih (n - 1) (by omega) (z + 1) ρ2 G2 E2 _ _ _ _ (by omega) (hE2.c (fun j hj h => by
                    rcases h with h | ⟨h1, h | ⟨h2, h3⟩⟩
                    · rcases Nat.lt_or_ge (cZ j) z with h4 | h4
                      · exact Or.inl h4
                      · exact Or.inr ⟨by omega, Or.inl (Nat.zero_le _)⟩
                    · exact absurd h (by have := cY_lt j; omega)
                    · exact absurd h3 (Nat.not_lt_zero _)) (fun _ _ _ => rfl)) (by omega) hF2
                          · exact absurd (show nI 0 - 1 < 0 by decide) h14
                        · obtain ⟨y, rfl⟩ : ∃ y, y8 = y + 1 := ⟨y8 - 1, by omega⟩
                          rw [nI_pred]
                          have hy8 : y < 8 := by omega
                          have Lx : ∀ (nx : Nat) (x : Nat) (ρ3 : Mem) (G3 : Nat → List Nat) (E3 : Nat) (v6 : Option Value) (v7 : Option Value), (x + nx = 12) → (Ent ρ3 (Sp z (y + 1) x) (srcQ w 3 q 0) G3 E3) → (E3 ≤ 96 * z + 12 * (7 - y) + x) → (FrL σ ρ3) → Go objC NC X 20 [some (.ref 10), some (.ref 1), some (.ref 14), some (.int (nI z)), some (.int (nI y)), some (.int (nI x)), v6, v7] [] ρ3 := by
                            intro nx
                            induction nx using Nat.strongRecOn with
                            | _ nx ihx =>
                              intro x ρ3 G3 E3 v6 v7 hx hE3 hEx hF3
                              have hW3 := hF3.W hW
                              refine go_iload C dX4_enterSun_20 rfl ?_
                              refine go_bipush C (nI 12) dX4_enterSun_22 rfl ?_
                              refine go_icmp_geN C 104 dX4_enterSun_24 (by decide) (by omega) (by omega) (fun h24 => ?_) (fun h24 => ?_)
                              · refine go_iinc C (nI y - 1) dX4_enterSun_104 rfl (dec_i _) (by decide) rfl rfl ?_
                                refine go_goto C 12 dX4_enterSun_107 (by decide) ?_
                                obtain rfl : x = 12 := by omega
                                exact ihy (ny - 1) (by omega) y ρ3 G3 E3 _ _ _ (by omega) (hE3.c (fun j hj h => by
                      rcases h with h | ⟨h1, h | ⟨h2, h3⟩⟩
                      · exact Or.inl h
                      · rcases Nat.lt_or_ge y (cY j) with h4 | h4
                        · exact Or.inr ⟨h1, Or.inl h4⟩
                        · exact Or.inr ⟨h1, Or.inr ⟨by omega, cX_lt j⟩⟩
                      · exact absurd h3 (Nat.not_lt_zero _)) (fun _ _ _ => rfl)) (by omega) hF3
                              · have hx12 : x < 12 := by omega
                                have hk := cel_lt hx12 hy8 hz12
                                have hl16 := lossN_lt hO (c := 3) (by decide) hk
                                have hk12 : y < 7 → cel x y z + 12 < 1152 := fun h => by unfold cel; omega
                                refine go_iload C dX4_enterSun_27 rfl ?_
                                refine go_iload C dX4_enterSun_29 rfl ?_
                                refine go_iload_n C dX4_enterSun_31 rfl ?_
                                refine go_S3P C ok_X2_cell lk_X4_46 dX4_enterSun_32 k_X2_cell (by decide) (Nat.le_of_ble_eq_true rfl) ?_
                                refine go_istore C dX4_enterSun_35 (by decide) rfl rfl ?_
                                refine go_aload_n C dX4_enterSun_37 rfl ?_
                                refine go_iload C dX4_enterSun_38 rfl ?_
                                refine go_iconst C (nI 3) dX4_enterSun_40 rfl ?_
                                refine go_V2P C ok_X5_lossAt lk_X4_52 dX4_enterSun_41 (by decide) rfl rfl rfl (k_X5_lossAt hO hW3 hk (by decide)) (by decide) (Nat.le_of_ble_eq_true rfl) ?_
                                refine go_istore C dX4_enterSun_44 (by decide) rfl rfl ?_
                                refine go_iload C dX4_enterSun_46 rfl ?_
                                refine go_bipush C (nI 7) dX4_enterSun_48 rfl ?_
                                refine go_icmp_neN C 68 dX4_enterSun_50 (by decide) (by omega) (by omega) (fun h50 => ?_) (fun h50 => ?_)
                                · have hlow : srcQ w 3 q 0 (cel x y z) = if lossN w 3 (cel x y z) = 0 ∧ sunS (lossN w 3) (cel x y z + 12) = 15 then 15 else 0 := by unfold srcQ; rw [if_pos rfl]; exact sunS_low (by rw [cY_cel hx12 hy8]; omega)
                                  have hup := (hE3.2.2.1 (cel x y z + 12) (hk12 (by omega)) (by right; refine ⟨by unfold cZ cel; omega, Or.inl (by unfold cY cel; omega)⟩)).1
                                  refine go_aload_n C dX4_enterSun_68 rfl ?_
                                  refine go_iload C dX4_enterSun_69 rfl ?_
                                  refine go_iload C dX4_enterSun_71 rfl ?_
                                  refine go_if_neN C 93 dX4_enterSun_73 (by decide) (by omega) (fun h73 => ?_) (fun h73 => ?_)
                                  · have hv : 0 = srcQ w 3 q 0 (cel x y z) := by rw [hlow, if_neg (fun h => h73 h.1)]
                                    refine go_iconst C (nI 0) dX4_enterSun_93 rfl ?_
                                    refine go_aload_n C dX4_enterSun_94 rfl ?_
                                    refine go_V3V C ok_X4_enter lk_X4_42 dX4_enterSun_95 (by decide) rfl rfl rfl (k_X4_enter hE3 hk (by omega) (by omega)) (by decide) (Nat.le_of_ble_eq_true rfl) (fun τ hp => ?_)
                                    refine go_iincN C 1 dX4_enterSun_98 rfl rfl (by decide) rfl rfl ?_
                                    refine go_goto C 20 dX4_enterSun_101 (by decide) ?_
                                    obtain ⟨G2, E2, q1, q2, q3, q4, q5, q6⟩ := hp
                                    rw [un_ide hv] at q1
                                    exact ihx (nx - 1) (by omega) (x + 1) τ G2 E2 _ _ (by omega) (q1.c (fun j hj h => by
                    rcases h with h | ⟨h1, h | ⟨h2, h3⟩⟩
                    · exact Or.inl (Or.inl h)
                    · exact Or.inl (Or.inr ⟨h1, Or.inl h⟩)
                    · rcases Nat.lt_or_ge (cX j) x with h4 | h4
                      · exact Or.inl (Or.inr ⟨h1, Or.inr ⟨h2, h4⟩⟩)
                      · right; rw [← cel_c hj, show cX j = x by omega, show cY j = y by omega, h1]) (fun _ _ _ => rfl)) (by omega) (hF3.trans q6)
                                  · refine go_aload_n C dX4_enterSun_76 rfl ?_
                                    refine go_iload C dX4_enterSun_77 rfl ?_
                                    refine go_bipush C (nI 12) dX4_enterSun_79 rfl ?_
                                    refine go_iaddN C dX4_enterSun_81 ?_
                                    refine go_ialdN C dX4_enterSun_82 (by decide) rfl (by decide) (hk12 (by omega)) ?_
                                    refine go_top (nI (sunS (lossN w 3) (cel x y z + 12))) (by rw [hup]; rfl) ?_
                                    refine go_bipush C (nI 15) dX4_enterSun_83 rfl ?_
                                    have hs15 := sunS_le (l3 := lossN w 3) (cel x y z + 12)
                                    refine go_icmp_neN C 93 dX4_enterSun_85 (by decide) (by omega) (by omega) (fun h85 => ?_) (fun h85 => ?_)
                                    · have hv : 0 = srcQ w 3 q 0 (cel x y z) := by rw [hlow, if_neg (fun h => h85 h.2)]
                                      refine go_iconst C (nI 0) dX4_enterSun_93 rfl ?_
                                      refine go_aload_n C dX4_enterSun_94 rfl ?_
                                      refine go_V3V C ok_X4_enter lk_X4_42 dX4_enterSun_95 (by decide) rfl rfl rfl (k_X4_enter hE3 hk (by omega) (by omega)) (by decide) (Nat.le_of_ble_eq_true rfl) (fun τ hp => ?_)
                                      refine go_iincN C 1 dX4_enterSun_98 rfl rfl (by decide) rfl rfl ?_
                                      refine go_goto C 20 dX4_enterSun_101 (by decide) ?_
                                      obtain ⟨G2, E2, q1, q2, q3, q4, q5, q6⟩ := hp
                                      rw [un_ide hv] at q1
                                      exact ihx (nx - 1) (by omega) (x + 1) τ G2 E2 _ _ (by omega) (q1.c (fun j hj h => by
                    rcases h with h | ⟨h1, h | ⟨h2, h3⟩⟩
                    · exact Or.inl (Or.inl h)
                    · exact Or.inl (Or.inr ⟨h1, Or.inl h⟩)
                    · rcases Nat.lt_or_ge (cX j) x with h4 | h4
                      · exact Or.inl (Or.inr ⟨h1, Or.inr ⟨h2, h4⟩⟩)
                      · right; rw [← cel_c hj, show cX j = x by omega, show cY j = y by omega, h1]) (fun _ _ _ => rfl)) (by omega) (hF3.trans q6)
                                    · have hv : 15 = srcQ w 3 q 0 (cel x y z) := by rw [hlow, if_pos ⟨h73, h85⟩]
                                      refine go_bipush C (nI 15) dX4_enterSun_88 rfl ?_
                                      refine go_goto C 94 dX4_enterSun_90 (by decide) ?_
                                      refine go_aload_n C dX4_enterSun_94 rfl ?_
                                      refine go_V3V C ok_X4_enter lk_X4_42 dX4_enterSun_95 (by decide) rfl rfl rfl (k_X4_enter hE3 hk (by omega) (by omega)) (by decide) (Nat.le_of_ble_eq_true rfl) (fun τ hp => ?_)
                                      refine go_iincN C 1 dX4_enterSun_98 rfl rfl (by decide) rfl rfl ?_
                                      refine go_goto C 20 dX4_enterSun_101 (by decide) ?_
                                      obtain ⟨G2, E2, q1, q2, q3, q4, q5, q6⟩ := hp
                                      rw [un_ide hv] at q1
                                      exact ihx (nx - 1) (by omega) (x + 1) τ G2 E2 _ _ (by omega) (q1.c (fun j hj h => by
                    rcases h with h | ⟨h1, h | ⟨h2, h3⟩⟩
                    · exact Or.inl (Or.inl h)
                    · exact Or.inl (Or.inr ⟨h1, Or.inl h⟩)
                    · rcases Nat.lt_or_ge (cX j) x with h4 | h4
                      · exact Or.inl (Or.inr ⟨h1, Or.inr ⟨h2, h4⟩⟩)
                      · right; rw [← cel_c hj, show cX j = x by omega, show cY j = y by omega, h1]) (fun _ _ _ => rfl)) (by omega) (hF3.trans q6)
                                · have hv : 15 - lossN w 3 (cel x y z) = srcQ w 3 q 0 (cel x y z) := by unfold srcQ; rw [if_pos rfl, sunS_top (by rw [cY_cel hx12 hy8]; exact h50)]
                                  refine go_aload_n C dX4_enterSun_53 rfl ?_
                                  refine go_iload C dX4_enterSun_54 rfl ?_
                                  refine go_bipush C (nI 15) dX4_enterSun_56 rfl ?_
                                  refine go_iload C dX4_enterSun_58 rfl ?_
                                  refine go_isubN C dX4_enterSun_60 (by omega) ?_
                                  refine go_aload_n C dX4_enterSun_61 rfl ?_
                                  refine go_V3V C ok_X4_enter lk_X4_42 dX4_enterSun_62 (by decide) rfl rfl rfl (k_X4_enter hE3 hk (by omega) (by omega)) (by decide) (Nat.le_of_ble_eq_true rfl) (fun τ hp => ?_)
                                  refine go_goto C 98 dX4_enterSun_65 (by decide) ?_
                                  refine go_iincN C 1 dX4_enterSun_98 rfl rfl (by decide) rfl rfl ?_
                                  refine go_goto C 20 dX4_enterSun_101 (by decide) ?_
                                  obtain ⟨G2, E2, q1, q2, q3, q4, q5, q6⟩ := hp
                                  rw [un_ide hv] at q1
                                  exact ihx (nx - 1) (by omega) (x + 1) τ G2 E2 _ _ (by omega) (q1.c (fun j hj h => by
                    rcases h with h | ⟨h1, h | ⟨h2, h3⟩⟩
                    · exact Or.inl (Or.inl h)
                    · exact Or.inl (Or.inr ⟨h1, Or.inl h⟩)
                    · rcases Nat.lt_or_ge (cX j) x with h4 | h4
                      · exact Or.inl (Or.inr ⟨h1, Or.inr ⟨h2, h4⟩⟩)
                      · right; rw [← cel_c hj, show cX j = x by omega, show cY j = y by omega, h1]) (fun _ _ _ => rfl)) (by omega) (hF3.trans q6)
                          refine go_iload C dX4_enterSun_12 rfl ?_
                          refine go_if_ltN C 110 dX4_enterSun_14 (by decide) (by omega) (fun h14 => ?_) (fun h14 => ?_)
                          · exact absurd h14 (by omega)
                          · refine go_iconst C (nI 0) dX4_enterSun_17 rfl ?_
                            refine go_istore C dX4_enterSun_18 (by decide) rfl rfl ?_
                            exact Lx 12 0 ρ2 G2 E2 _ _ (by omega) hE2 (by omega) hF2
          refine go_bipush C (nI 7) dX4_enterSun_8 rfl ?_
          refine go_istore C dX4_enterSun_10 (by decide) rfl rfl ?_
          exact Ly 8 8 ρ G1 E1 _ _ _ ⟨rfl, by decide⟩ hE1 (by omega) hF1
    refine go_iconst C (nI 0) dX4_enterSun_0 rfl ?_
    refine go_istore_n C dX4_enterSun_1 (by decide) rfl rfl ?_
    exact L 12 0 σ G 0 _ _ _ _ (by omega) (hE.c (fun j _ h => by
          rcases h with h | ⟨h1, h | ⟨h2, h3⟩⟩
          · exact absurd h (Nat.not_lt_zero _)
          · exact absurd h (by have := cY_lt j; omega)
          · exact absurd h3 (Nat.not_lt_zero _)) (fun _ _ _ => rfl)) (Nat.le_refl _) FrL.refl
end
section
/-- where a light is searched anew: what the class leaves of it -/
def FndP (σ : Mem) (w : Wd) (c q : Nat) : Mem → Prop := fun τ => FrL σ τ ∧ IsLit (srcQ w c q 0) (lossN w c) (litQ w c q 0) ∧ ∀ j, j < 1152 → τ 14 j = nI (litQ w c q 0 j)
set_option maxHeartbeats 4000000 in
set_option maxRecDepth 100000 in
theorem k_X4_find {σ : Mem} {w : Wd} (hO : OkW w) (hW : HasW σ 1 w) {c q : Nat} (hc : c < 4) {u : Int32} (hu : ∀ k, k < 1152 → (nI k = u ↔ k = q)) : CtV objC NC yX4_find cX4_find 8 3 69 [.ref 10, .ref 1, .int (nI c), .int u, .ref 14] σ (FndP σ w c q) := by
  refine ct_ofV rfl ?_ (Nat.le_of_ble_eq_true rfl) (fun X C hr => ?_)
  · intro v hv; simp only [List.mem_cons, List.not_mem_nil, or_false] at hv; rcases hv with rfl | rfl | rfl | rfl | rfl <;> rfl
  · have L : ∀ (n : Nat) (lv : Nat) (ρ : Mem) (f1 : Nat → Nat) (G1 : Nat → List Nat) (E1 : Nat) (rz1 : Nat → Prop) (v6 : Option Value) (v7 : Option Value), (lv = n + 1 ∧ lv ≤ 15) → (PI (srcQ w c q 0) (lossN w c) lv f1 (fun _ _ => False)) → (Ent ρ (fun _ => True) f1 G1 E1) → (Rz rz1 E1 f1 (lossN w c) lv) → (FrL σ ρ) → Go objC NC X 57 [some (.ref 10), some (.ref 1), some (.int (nI c)), some (.int u), some (.ref 14), some (.int (nI lv)), v6, v7] [] ρ := by
      intro n
      induction n using Nat.strongRecOn with
      | _ n ih =>
        intro lv ρ f1 G1 E1 rz1 v6 v7 hlv hP1 hE1 hR1 hF1
        have hE1b := hE1.1
        refine go_iload C dX4_find_57 rfl ?_
        refine go_iconst C (nI 1) dX4_find_59 rfl ?_
        refine go_icmp_leN C 140 dX4_find_60 (by decide) (by omega) (by omega) (fun h60 => ?_) (fun h60 => ?_)
        · refine go_vret hr dX4_find_140 ?_
          have e1 : lv = 1 := by omega
          have hL := PI_1 (e1 ▸ hP1)
          exact ⟨hF1, lfp_is hL, fun j hj => by rw [(hE1.2.2.1 j hj trivial).1]; exact congrArg nI (lfp_eq hL hj)⟩
        · have Ld : ∀ (nd : Nat) (Lc : List Nat) (x : Int32) (cn : Nat) (ρ2 : Mem) (f2 : Nat → Nat) (G2 : Nat → List Nat) (E2 : Nat) (rz2 : Nat → Prop) (Dd : Nat → Nat → Prop), (nd = Lc.length) → (chn (ρ2 12) (ρ2 13) E2 x Lc) → (cn + Lc.length ≤ E2) → (PI (srcQ w c q 0) (lossN w c) lv f2 Dd) → (Ent ρ2 (fun _ => True) f2 G2 E2) → (Rz rz2 E2 f2 (lossN w c) lv) → (FrL σ ρ2) → (∀ z, z ∈ Lc → z < 1152) → (∀ z, z < 1152 → f2 z = lv → z ∈ Lc ∨ ∀ y d, nbr z d = some y → Dd z y) → Go objC NC X 75 [some (.ref 10), some (.ref 1), some (.int (nI c)), some (.int u), some (.ref 14), some (.int (nI lv)), some (.int x), some (.int (nI cn))] [] ρ2 := by
                      intro nd
                      induction nd using Nat.strongRecOn with
                      | _ nd ihd =>
                        intro Lc x cn ρ2 f2 G2 E2 rz2 Dd hnL hch hcn hP2 hE2 hR2 hF2 hLc hcov
                        cases Lc with
                        | nil =>
                          obtain rfl : x = -1 := hch
                          have hPn : PI (srcQ w c q 0) (lossN w c) (lv - 1) f2 (fun _ _ => False) := PI_lv (lv := lv - 1) (by rw [show lv - 1 + 1 = lv by omega]; exact hP2) (fun a b d ha hfa hd => by
                rcases hcov a ha (by omega) with h | h
                · cases h
                · exact h b d hd)
                          refine go_iload C dX4_find_75 rfl ?_
                          refine go_iconst C (-1) dX4_find_77 rfl ?_
                          refine go_icmp_eq C 134 dX4_find_78 (by decide) (fun h78 => ?_) (fun h78 => ?_)
                          · refine go_iinc C (nI (lv - 1)) dX4_find_134 rfl (dec_n (by omega)) (by decide) rfl rfl ?_
                            refine go_goto C 57 dX4_find_137 (by decide) ?_
                            exact ih (n - 1) (by omega) (lv - 1) ρ2 f2 G2 E2 rz2 _ _ (by omega) hPn hE2 ⟨hR2.1, fun z hz hr => Nat.le_trans (Nat.sub_le _ _) (hR2.2 z hz hr)⟩ hF2
                          · exact absurd rfl h78
                        | cons m Lr =>
                          obtain ⟨en, hen, rfl, hce, hnx⟩ := hch
                          have hW2 := hF2.W hW
                          have hE2b := hE2.1
                          have hm := hLc m List.mem_cons_self
                          have hlen : (m :: Lr).length = Lr.length + 1 := rfl
                          have hfm15 := (hE2.2.2.1 m hm trivial).2
                          refine go_iload C dX4_find_75 rfl ?_
                          refine go_iconst C (-1) dX4_find_77 rfl ?_
                          refine go_icmp_eq C 134 dX4_find_78 (by decide) (fun h78 => ?_) (fun h78 => ?_)
                          · exact absurd h78 (oI_ne (by omega))
                          · refine go_iload C dX4_find_81 rfl ?_
                            refine go_sipush C (nI 2304) dX4_find_83 rfl ?_
                            refine go_icmp_geN C 134 dX4_find_86 (by decide) (by omega) (by omega) (fun h86 => ?_) (fun h86 => ?_)
                            · exact absurd h86 (by omega)
                            · refine go_aload C dX4_find_89 rfl ?_
                              refine go_aload_n C dX4_find_91 rfl ?_
                              refine go_getR C gf_X4_18 dX4_find_92 (by decide) rfl rfl ?_
                              refine go_iload C dX4_find_95 rfl ?_
                              refine go_ialdN C dX4_find_97 (by decide) rfl (by decide) (by omega) ?_
                              refine go_top _ hce ?_
                              refine go_ialdN C dX4_find_98 (by decide) rfl (by decide) (by omega) ?_
                              refine go_top _ (hE2.2.2.1 _ hm trivial).1 ?_
                              refine go_iload C dX4_find_99 rfl ?_
                              refine go_icmp_neN C 119 dX4_find_101 (by decide) (by omega) (by omega) (fun h101 => ?_) (fun h101 => ?_)
                              · skip
                                refine go_aload_n C dX4_find_119 rfl ?_
                                refine go_getR C gf_X4_15 dX4_find_120 (by decide) rfl rfl ?_
                                refine go_iload C dX4_find_123 rfl ?_
                                refine go_ialdN C dX4_find_125 (by decide) rfl (by decide) (by omega) ?_
                                refine go_istore C dX4_find_126 (by decide) rfl rfl ?_
                                refine go_iincN C 1 dX4_find_128 rfl rfl (by decide) rfl rfl ?_
                                refine go_goto C 75 dX4_find_131 (by decide) ?_
                                exact ihd (nd - 1) (by omega) Lr (ρ2 12 en) (cn + 1) ρ2 f2 G2 E2 rz2 Dd (by omega) hnx (by omega) hP2 hE2 hR2 hF2 (fun z hz => hLc z (List.mem_cons_of_mem _ hz)) (fun z hz hfz => by
                    rcases hcov z hz hfz with h | h
                    · rcases List.mem_cons.mp h with rfl | h
                      · exact absurd hfz h101
                      · exact Or.inl h
                    · exact Or.inr h)
                              · skip
                                refine go_aload_n C dX4_find_104 rfl ?_
                                refine go_aload_n C dX4_find_105 rfl ?_
                                refine go_iload_n C dX4_find_106 rfl ?_
                                refine go_aload_n C dX4_find_107 rfl ?_
                                refine go_getR C gf_X4_18 dX4_find_108 (by decide) rfl rfl ?_
                                refine go_iload C dX4_find_111 rfl ?_
                                refine go_ialdN C dX4_find_113 (by decide) rfl (by decide) (by omega) ?_
                                refine go_top _ hce ?_
                                refine go_aload C dX4_find_114 rfl ?_
                                refine go_V4V C ok_X4_give lk_X4_33 dX4_find_116 (by decide) rfl rfl rfl (k_X4_give hO hW2 hc hm (by omega) h101 hE2 hP2 hR2) (by decide) (Nat.le_of_ble_eq_true rfl) (fun τ hp => ?_)
                                refine go_aload_n C dX4_find_119 rfl ?_
                                refine go_getR C gf_X4_15 dX4_find_120 (by decide) rfl rfl ?_
                                refine go_iload C dX4_find_123 rfl ?_
                                refine go_ialdN C dX4_find_125 (by decide) rfl (by decide) (by omega) ?_
                                refine go_istore C dX4_find_126 (by decide) rfl rfl ?_
                                refine go_iincN C 1 dX4_find_128 rfl rfl (by decide) rfl rfl ?_
                                refine go_goto C 75 dX4_find_131 (by decide) ?_
                                obtain ⟨f3, G3, E3, rz3, p1, p2, p3, p4, p5, p6, p7⟩ := hp
                                rw [(p4 en hen).1]
                                exact ihd (nd - 1) (by omega) Lr (ρ2 12 en) (cn + 1) τ f3 G3 E3 rz3 _ (by omega) (chn_keep p4 p5 _ _ hnx) (by omega) p1 p2 p3 (hF2.trans p6) (fun z hz => hLc z (List.mem_cons_of_mem _ hz)) (fun z hz hfz => by
                    rcases hcov z hz (p7 z hz hfz) with h | h
                    · rcases List.mem_cons.mp h with rfl | h
                      · exact Or.inr (fun y d hd => Or.inr ⟨rfl, d, hd⟩)
                      · exact Or.inl h
                    · exact Or.inr (fun y d hd => Or.inl (h y d hd)))
          obtain ⟨c1, c2, c3⟩ := hE1.2.2.2.1 lv (by omega)
          refine go_aload_n C dX4_find_63 rfl ?_
          refine go_getR C gf_X4_9 dX4_find_64 (by decide) rfl rfl ?_
          refine go_iload C dX4_find_67 rfl ?_
          refine go_ialdN C dX4_find_69 (by decide) rfl (by decide) (by omega) ?_
          refine go_istore C dX4_find_70 (by decide) rfl rfl ?_
          refine go_iconst C (nI 0) dX4_find_72 rfl ?_
          refine go_istore C dX4_find_73 (by decide) rfl rfl ?_
          exact Ld (G1 lv).length (G1 lv) (ρ 11 lv) 0 ρ f1 G1 E1 rz1 _ rfl c1 (by omega) hP1 hE1 hR1 hF1 c3 (fun z hz hfz => Or.inl (hfz ▸ hE1.2.2.2.2 z hz trivial (by omega)))
    have J : ∀ (τ : Mem) (G1 : Nat → List Nat) (E1 : Nat) (v5 v6 v7 : Option Value), Ent τ (fun _ => True) (srcQ w c q 0) G1 E1 → E1 ≤ 1152 → FrL σ τ → Go objC NC X 53 [some (.ref 10), some (.ref 1), some (.int (nI c)), some (.int u), some (.ref 14), v5, v6, v7] [] τ := by
      intro τ G1 E1 v5 v6 v7 hE1 hEb hF1
      refine go_bipush C (nI 15) dX4_find_53 rfl ?_
      refine go_istore C dX4_find_55 (by decide) rfl rfl ?_
      exact L 14 15 τ (srcQ w c q 0) G1 E1 (fun _ => False) _ _ ⟨rfl, by decide⟩ (PI_0 (srcQ_le hO hc (by decide)) (fun _ _ => rfl)) hE1 ⟨by omega, fun _ _ h => h.elim⟩ hF1
    have A : ∀ (n : Nat) (i : Nat) (ρ : Mem), (i + n = 16) → (ρ 10 3 = nI 0) → (∀ j, j < i → ρ 11 j = -1) → (FrL σ ρ) → Go objC NC X 8 [some (.ref 10), some (.ref 1), some (.int (nI c)), some (.int u), some (.ref 14), some (.int (nI i)), none, none] [] ρ := by
      intro n
      induction n using Nat.strongRecOn with
      | _ n ih =>
        intro i ρ hi h10 h11 hF1
        refine go_iload C dX4_find_8 rfl ?_
        refine go_bipush C (nI 15) dX4_find_10 rfl ?_
        refine go_icmp_gtN C 29 dX4_find_12 (by decide) (by omega) (by omega) (fun h12 => ?_) (fun h12 => ?_)
        · obtain rfl : i = 16 := by omega
          have hE1 : Ent ρ (fun _ => False) (srcQ w c q 0) (fun _ => []) 0 := ⟨by decide, h10, fun _ _ h => h.elim, fun v hv => ⟨h11 v hv, Nat.zero_le _, fun c h => by cases h⟩, fun _ _ h => h.elim⟩
          refine go_iload_n C dX4_find_29 rfl ?_
          refine go_iconst C (nI 3) dX4_find_30 rfl ?_
          refine go_icmp_neN C 44 dX4_find_31 (by decide) (by omega) (by omega) (fun h31 => ?_) (fun h31 => ?_)
          · refine go_aload_n C dX4_find_44 rfl ?_
            refine go_aload_n C dX4_find_45 rfl ?_
            refine go_iload_n C dX4_find_46 rfl ?_
            refine go_iload_n C dX4_find_47 rfl ?_
            refine go_aload C dX4_find_48 rfl ?_
            refine go_V4V C ok_X4_enterEmissions lk_X4_29 dX4_find_50 (by decide) rfl rfl rfl (k_X4_enterEmissions hO (hF1.W hW) hc h31 hu hE1) (by decide) (Nat.le_of_ble_eq_true rfl) (fun τ hp => ?_)
            obtain ⟨G2, E2, q1, q2, q3⟩ := hp
            exact J τ G2 E2 _ _ _ q1 q2 (hF1.trans q3)
          · subst h31
            refine go_aload_n C dX4_find_34 rfl ?_
            refine go_aload_n C dX4_find_35 rfl ?_
            refine go_aload C dX4_find_36 rfl ?_
            refine go_V2V C ok_X4_enterSun lk_X4_25 dX4_find_38 (by decide) rfl rfl rfl (k_X4_enterSun hO (hF1.W hW) hE1) (by decide) (Nat.le_of_ble_eq_true rfl) (fun τ hp => ?_)
            obtain ⟨G2, E2, q1, q2, q3⟩ := hp
            refine go_goto C 53 dX4_find_41 (by decide) ?_
            exact J τ G2 E2 _ _ _ q1 q2 (hF1.trans q3)
        · refine go_aload_n C dX4_find_15 rfl ?_
          refine go_getR C gf_X4_9 dX4_find_16 (by decide) rfl rfl ?_
          refine go_iload C dX4_find_19 rfl ?_
          refine go_iconst C (-1) dX4_find_21 rfl ?_
          refine go_iastN C dX4_find_22 (by decide) rfl (by decide) (by omega) ?_
          refine go_iincN C 1 dX4_find_23 rfl rfl (by decide) rfl rfl ?_
          refine go_goto C 8 dX4_find_26 (by decide) ?_
          exact ih (n - 1) (by omega) (i + 1) _ (by omega) h10 (fun j hj => by
              show upd (ρ 11) i (-1) j = -1
              by_cases e : j = i
              · subst e; exact pk_us
              · rw [pk_un e]; exact h11 j (by omega)) (hF1.trans (fun q a b c d e => updR_n b))
    refine go_aload_n C dX4_find_0 rfl ?_
    refine go_iconst C (nI 0) dX4_find_1 rfl ?_
    refine go_putI C gf_X4_21 dX4_find_2 (by decide) rfl rfl rfl rfl rfl ?_
    refine go_iconst C (nI 0) dX4_find_5 rfl ?_
    refine go_istore C dX4_find_6 (by decide) rfl rfl ?_
    exact A 16 0 _ (by omega) rfl (fun j h => absurd h (Nat.not_lt_zero j)) (fun q a b c d e => updR_n a)
end
section
def inI (v a b : Int32) : Prop := ¬ v < a ∧ ¬ b < v
theorem inI_rng {v : Int32} {k : Nat} (hk : k + 1 < 2 ^ 31) : inI v (nI 0) (nI k) ↔ rng (k + 1) v := by
  constructor
  · rintro ⟨h1, h2⟩
    refine ⟨h1, fun q => ?_⟩
    exact h2 (Int32.lt_of_lt_of_le (nI_lt (Nat.lt_succ_self k) hk) q)
  · rintro h
    obtain ⟨a, ha, rfl⟩ := rng_nat hk h
    exact ⟨nI_pos (by omega), nI_nlt (by omega) (by omega)⟩
theorem inI_nI {a b c : Nat} (ha : a < 2 ^ 31) (hb : b < 2 ^ 31) (hc : c < 2 ^ 31) : inI (nI a) (nI b) (nI c) ↔ b ≤ a ∧ a ≤ c := by
  unfold inI
  rw [nI_ltI ha hb, nI_ltI hc ha]
  omega
set_option maxHeartbeats 4000000 in
set_option maxRecDepth 100000 in
theorem k_X7_in0 {σ : Mem} (v a b : Int32) : CtI objM NM yX7_in cX7_in 3 .boolean 0 0 [.int v, .int a, .int b] σ (Pv (bP (inI v a b)) σ) := by
  refine ct_ofI rfl ?_ (Nat.le_of_ble_eq_true rfl) (fun X C hr => ?_)
  · intro v hv; simp only [List.mem_cons, List.not_mem_nil, or_false] at hv; rcases hv with rfl | rfl | rfl <;> rfl
  · refine go_iload_n C dX7_in_0 rfl ?_
    refine go_iload_n C dX7_in_1 rfl ?_
    refine go_icmp_lt C 14 dX7_in_2 (by decide) (fun h2 => ?_) (fun h2 => ?_)
    · refine go_iconst C (nI 0) dX7_in_14 rfl ?_
      refine go_iret hr dX7_in_15 rfl ?_
      exact ⟨by first | exact bP_t ⟨by assumption, by assumption⟩ | exact bP_f (by rintro ⟨q1, q2⟩; contradiction), rfl⟩
    · refine go_iload_n C dX7_in_5 rfl ?_
      refine go_iload_n C dX7_in_6 rfl ?_
      refine go_icmp_gt C 14 dX7_in_7 (by decide) (fun h7 => ?_) (fun h7 => ?_)
      · refine go_iconst C (nI 0) dX7_in_14 rfl ?_
        refine go_iret hr dX7_in_15 rfl ?_
        exact ⟨by first | exact bP_t ⟨by assumption, by assumption⟩ | exact bP_f (by rintro ⟨q1, q2⟩; contradiction), rfl⟩
      · refine go_iconst C (nI 1) dX7_in_10 rfl ?_
        refine go_goto C 15 dX7_in_11 (by decide) ?_
        refine go_iret hr dX7_in_15 rfl ?_
        exact ⟨by first | exact bP_t ⟨by assumption, by assumption⟩ | exact bP_f (by rintro ⟨q1, q2⟩; contradiction), rfl⟩
theorem k_X7_in {σ : Mem} {k : Nat} (hk : k + 1 < 2 ^ 31) (v : Int32) : CtI objM NM yX7_in cX7_in 3 .boolean 0 0 [.int v, .int (nI 0), .int (nI k)] σ (Pv (bP (rng (k + 1) v)) σ) := by
  rw [← bP_c (inI_rng hk)]
  exact k_X7_in0 v _ _
set_option maxHeartbeats 4000000 in
set_option maxRecDepth 100000 in
theorem k_X7_isCell {σ : Mem} (x y z : Int32) : CtI objM NM yX7_isCell cX7_isCell 3 .boolean 1 22 [.int x, .int y, .int z] σ (Pv (bP (isC x y z)) σ) := by
  refine ct_ofI rfl ?_ (Nat.le_of_ble_eq_true rfl) (fun X C hr => ?_)
  · intro v hv; simp only [List.mem_cons, List.not_mem_nil, or_false] at hv; rcases hv with rfl | rfl | rfl <;> rfl
  · refine go_iload_n C dX7_isCell_0 rfl ?_
    refine go_iconst C (nI 0) dX7_isCell_1 rfl ?_
    refine go_bipush C (nI 11) dX7_isCell_2 rfl ?_
    refine go_S3P C ok_X7_in lk_X7_57 dX7_isCell_4 (k_X7_in (by decide) _) (by decide) (Nat.le_of_ble_eq_true rfl) ?_
    refine go_if_eqB C 34 dX7_isCell_7 (by decide) (fun h7 => ?_) (fun h7 => ?_)
    · refine go_iconst C (nI 0) dX7_isCell_34 rfl ?_
      refine go_iret hr dX7_isCell_35 rfl ?_
      exact ⟨by first | exact bP_t ⟨by assumption, by assumption, by assumption⟩ | exact bP_f (by rintro ⟨q1, q2, q3⟩; contradiction), rfl⟩
    · refine go_iload_n C dX7_isCell_10 rfl ?_
      refine go_iconst C (nI 0) dX7_isCell_11 rfl ?_
      refine go_bipush C (nI 7) dX7_isCell_12 rfl ?_
      refine go_S3P C ok_X7_in lk_X7_57 dX7_isCell_14 (k_X7_in (by decide) _) (by decide) (Nat.le_of_ble_eq_true rfl) ?_
      refine go_if_eqB C 34 dX7_isCell_17 (by decide) (fun h17 => ?_) (fun h17 => ?_)
      · refine go_iconst C (nI 0) dX7_isCell_34 rfl ?_
        refine go_iret hr dX7_isCell_35 rfl ?_
        exact ⟨by first | exact bP_t ⟨by assumption, by assumption, by assumption⟩ | exact bP_f (by rintro ⟨q1, q2, q3⟩; contradiction), rfl⟩
      · refine go_iload_n C dX7_isCell_20 rfl ?_
        refine go_iconst C (nI 0) dX7_isCell_21 rfl ?_
        refine go_bipush C (nI 11) dX7_isCell_22 rfl ?_
        refine go_S3P C ok_X7_in lk_X7_57 dX7_isCell_24 (k_X7_in (by decide) _) (by decide) (Nat.le_of_ble_eq_true rfl) ?_
        refine go_if_eqB C 34 dX7_isCell_27 (by decide) (fun h27 => ?_) (fun h27 => ?_)
        · refine go_iconst C (nI 0) dX7_isCell_34 rfl ?_
          refine go_iret hr dX7_isCell_35 rfl ?_
          exact ⟨by first | exact bP_t ⟨by assumption, by assumption, by assumption⟩ | exact bP_f (by rintro ⟨q1, q2, q3⟩; contradiction), rfl⟩
        · refine go_iconst C (nI 1) dX7_isCell_30 rfl ?_
          refine go_goto C 35 dX7_isCell_31 (by decide) ?_
          refine go_iret hr dX7_isCell_35 rfl ?_
          exact ⟨by first | exact bP_t ⟨by assumption, by assumption, by assumption⟩ | exact bP_f (by rintro ⟨q1, q2, q3⟩; contradiction), rfl⟩
set_option maxHeartbeats 4000000 in
set_option maxRecDepth 100000 in
theorem k_X7_xOf {σ : Mem} {k : Nat} (hk : k < 1152) : CtI objM NM yX7_xOf cX7_xOf 1 .int 0 0 [.int (nI k)] σ (Pv (nI (cX k)) σ) := by
  have h1 := cX_lt k
  have h2 := cZ_lt hk
  refine ct_ofI rfl ?_ (Nat.le_of_ble_eq_true rfl) (fun X C hr => ?_)
  · intro v hv; simp only [List.mem_cons, List.not_mem_nil, or_false] at hv; rcases hv with rfl <;> rfl
  · refine go_iload_n C dX7_xOf_0 rfl ?_
    refine go_bipush C (nI 12) dX7_xOf_1 rfl ?_
    refine go_iremN C dX7_xOf_3 (by omega) (by omega) (by omega) ?_
    refine go_iret hr dX7_xOf_4 rfl ?_
    exact ⟨rfl, rfl⟩
set_option maxHeartbeats 4000000 in
set_option maxRecDepth 100000 in
theorem k_X7_yOf {σ : Mem} {k : Nat} (hk : k < 1152) : CtI objM NM yX7_yOf cX7_yOf 1 .int 0 0 [.int (nI k)] σ (Pv (nI (cY k)) σ) := by
  have h1 := cX_lt k
  have h2 := cZ_lt hk
  refine ct_ofI rfl ?_ (Nat.le_of_ble_eq_true rfl) (fun X C hr => ?_)
  · intro v hv; simp only [List.mem_cons, List.not_mem_nil, or_false] at hv; rcases hv with rfl <;> rfl
  · refine go_iload_n C dX7_yOf_0 rfl ?_
    refine go_bipush C (nI 12) dX7_yOf_1 rfl ?_
    refine go_idivN C dX7_yOf_3 (by omega) (by omega) (by omega) ?_
    refine go_bipush C (nI 8) dX7_yOf_4 rfl ?_
    refine go_iremN C dX7_yOf_6 (by omega) (by omega) (by omega) ?_
    refine go_iret hr dX7_yOf_7 rfl ?_
    exact ⟨rfl, rfl⟩
set_option maxHeartbeats 4000000 in
set_option maxRecDepth 100000 in
theorem k_X7_zOf {σ : Mem} {k : Nat} (hk : k < 1152) : CtI objM NM yX7_zOf cX7_zOf 1 .int 0 0 [.int (nI k)] σ (Pv (nI (cZ k)) σ) := by
  have h1 := cX_lt k
  have h2 := cZ_lt hk
  refine ct_ofI rfl ?_ (Nat.le_of_ble_eq_true rfl) (fun X C hr => ?_)
  · intro v hv; simp only [List.mem_cons, List.not_mem_nil, or_false] at hv; rcases hv with rfl <;> rfl
  · refine go_iload_n C dX7_zOf_0 rfl ?_
    refine go_bipush C (nI 96) dX7_zOf_1 rfl ?_
    refine go_idivN C dX7_zOf_3 (by omega) (by omega) (by omega) ?_
    refine go_iret hr dX7_zOf_4 rfl ?_
    exact ⟨rfl, rfl⟩
set_option maxHeartbeats 4000000 in
set_option maxRecDepth 100000 in
theorem k_X7_code {σ : Mem} {k : Nat} (hk : k < 1152) : CtI objM NM yX7_code cX7_code 1 .int 1 20 [.int (nI k)] σ (Pv (nI (cod k)) σ) := by
  have h1 := cX_lt k
  have h2 := cZ_lt hk
  refine ct_ofI rfl ?_ (Nat.le_of_ble_eq_true rfl) (fun X C hr => ?_)
  · intro v hv; simp only [List.mem_cons, List.not_mem_nil, or_false] at hv; rcases hv with rfl <;> rfl
  · refine go_bipush C (nI 100) dX7_code_0 rfl ?_
    refine go_iload_n C dX7_code_2 rfl ?_
    refine go_S1P C ok_X7_zOf lk_X7_61 dX7_code_3 (k_X7_zOf (by omega)) (by decide) (Nat.le_of_ble_eq_true rfl) ?_
    refine go_imulN C dX7_code_6 ?_
    refine go_bipush C (nI 12) dX7_code_7 rfl ?_
    refine go_iload_n C dX7_code_9 rfl ?_
    refine go_S1P C ok_X7_yOf lk_X7_65 dX7_code_10 (k_X7_yOf (by omega)) (by decide) (Nat.le_of_ble_eq_true rfl) ?_
    refine go_imulN C dX7_code_13 ?_
    refine go_iaddN C dX7_code_14 ?_
    refine go_iload_n C dX7_code_15 rfl ?_
    refine go_S1P C ok_X7_xOf lk_X7_68 dX7_code_16 (k_X7_xOf (by omega)) (by decide) (Nat.le_of_ble_eq_true rfl) ?_
    refine go_iaddN C dX7_code_19 ?_
    refine go_iret hr dX7_code_20 rfl ?_
    exact ⟨rfl, rfl⟩
set_option maxHeartbeats 4000000 in
set_option maxRecDepth 100000 in
theorem k_X7_chunkOf {σ : Mem} {k : Nat} (hk : k < 1152) : CtI objM NM yX7_chunkOf cX7_chunkOf 1 .int 1 20 [.int (nI k)] σ (Pv (nI (chk k)) σ) := by
  have h1 := cX_lt k
  have h2 := cZ_lt hk
  refine ct_ofI rfl ?_ (Nat.le_of_ble_eq_true rfl) (fun X C hr => ?_)
  · intro v hv; simp only [List.mem_cons, List.not_mem_nil, or_false] at hv; rcases hv with rfl <;> rfl
  · refine go_iconst C (nI 3) dX7_chunkOf_0 rfl ?_
    refine go_iload_n C dX7_chunkOf_1 rfl ?_
    refine go_S1P C ok_X7_zOf lk_X7_61 dX7_chunkOf_2 (k_X7_zOf (by omega)) (by decide) (Nat.le_of_ble_eq_true rfl) ?_
    refine go_iconst C (nI 4) dX7_chunkOf_5 rfl ?_
    refine go_idivN C dX7_chunkOf_6 (by omega) (by omega) (by omega) ?_
    refine go_imulN C dX7_chunkOf_7 ?_
    refine go_iload_n C dX7_chunkOf_8 rfl ?_
    refine go_S1P C ok_X7_xOf lk_X7_68 dX7_chunkOf_9 (k_X7_xOf (by omega)) (by decide) (Nat.le_of_ble_eq_true rfl) ?_
    refine go_iconst C (nI 4) dX7_chunkOf_12 rfl ?_
    refine go_idivN C dX7_chunkOf_13 (by omega) (by omega) (by omega) ?_
    refine go_iaddN C dX7_chunkOf_14 ?_
    refine go_iret hr dX7_chunkOf_15 rfl ?_
    exact ⟨rfl, rfl⟩
set_option maxHeartbeats 4000000 in
set_option maxRecDepth 100000 in
theorem k_X7_cell {σ : Mem} {a b c : Nat} : CtI objM NM yX7_cell cX7_cell 3 .int 0 0 [.int (nI a), .int (nI b), .int (nI c)] σ (Pv (nI (cel a b c)) σ) := by
  refine ct_ofI rfl ?_ (Nat.le_of_ble_eq_true rfl) (fun X C hr => ?_)
  · intro v hv; simp only [List.mem_cons, List.not_mem_nil, or_false] at hv; rcases hv with rfl | rfl | rfl <;> rfl
  · refine go_iload_n C dX7_cell_0 rfl ?_
    refine go_bipush C (nI 8) dX7_cell_1 rfl ?_
    refine go_imulN C dX7_cell_3 ?_
    refine go_iload_n C dX7_cell_4 rfl ?_
    refine go_iaddN C dX7_cell_5 ?_
    refine go_bipush C (nI 12) dX7_cell_6 rfl ?_
    refine go_imulN C dX7_cell_8 ?_
    refine go_iload_n C dX7_cell_9 rfl ?_
    refine go_iaddN C dX7_cell_10 ?_
    refine go_iret hr dX7_cell_11 rfl ?_
    exact ⟨congrArg nI (by unfold cel; omega), rfl⟩
set_option maxHeartbeats 4000000 in
set_option maxRecDepth 100000 in
theorem k_X7_isType {σ : Mem} (x : Int32) : CtI objM NM yX7_isType cX7_isType 1 .boolean 1 22 [.int x] σ (Pv (bP (rng 8 x)) σ) := by
  refine ct_ofI rfl ?_ (Nat.le_of_ble_eq_true rfl) (fun X C hr => ?_)
  · intro v hv; simp only [List.mem_cons, List.not_mem_nil, or_false] at hv; rcases hv with rfl <;> rfl
  · refine go_iload_n C dX7_isType_0 rfl ?_
    refine go_iconst C (nI 0) dX7_isType_1 rfl ?_
    refine go_bipush C (nI 7) dX7_isType_2 rfl ?_
    refine go_S3P C ok_X7_in lk_X7_57 dX7_isType_4 (k_X7_in (by decide) _) (by decide) (Nat.le_of_ble_eq_true rfl) ?_
    refine go_iret hr dX7_isType_7 bP_nar ?_
    exact ⟨rfl, rfl⟩
def dlX : Nat → Int32
  | 0 => -1
  | 1 => nI 1
  | _ => nI 0
def dlY : Nat → Int32
  | 2 => -1
  | 3 => nI 1
  | _ => nI 0
def dlZ : Nat → Int32
  | 4 => -1
  | 5 => nI 1
  | _ => nI 0
theorem p1_i (a : Nat) : nI a + nI 1 = nI (a + 1) := nI_add a 1
theorem p0_i (a : Nat) : nI a + nI 0 = nI a := nI_add a 0
theorem m1_i {a b : Nat} (ha : a < 2 ^ 30) (hb : b < 2 ^ 30) (h : nI a + (-1) = nI b) : a = b + 1 := by
  rcases Nat.eq_zero_or_pos a with rfl | h0
  · exact absurd h (fun q => oI_ne (j := b) (by omega) (by rw [← q]; rfl))
  · obtain ⟨c, rfl⟩ : ∃ c, a = c + 1 := ⟨a - 1, by omega⟩
    rw [pk_m1] at h
    rw [(nI_eq (by omega) (by omega)).mp h]
theorem nxt_no {k d : Nat} {x y z : Int32} (hk : k < 1152) (hd : d < 6) (hx : x = nI (cX k) + dlX d) (hy : y = nI (cY k) + dlY d) (hz : z = nI (cZ k) + dlZ d) (h : ¬ isC x y z) : -1 = oI (nbr k d) := by
  have b1 := cX_lt k
  have b2 := cY_lt k
  have b3 := cZ_lt hk
  subst hx hy hz
  rcases (show d = 0 ∨ d = 1 ∨ d = 2 ∨ d = 3 ∨ d = 4 ∨ d = 5 by omega) with rfl | rfl | rfl | rfl | rfl | rfl <;> simp only [nbr, dlX, dlY, dlZ, p1_i, p0_i] at h ⊢
  · rw [if_neg]; rfl
    intro q
    obtain ⟨c, hc⟩ : ∃ c, cX k = c + 1 := ⟨cX k - 1, by omega⟩
    rw [hc, pk_m1] at h
    exact h (isC_nI (by omega) b2 b3)
  · rw [if_neg]; rfl
    exact fun q => h (isC_nI (by omega) b2 b3)
  · rw [if_neg]; rfl
    intro q
    obtain ⟨c, hc⟩ : ∃ c, cY k = c + 1 := ⟨cY k - 1, by omega⟩
    rw [hc, pk_m1] at h
    exact h (isC_nI b1 (by omega) b3)
  · rw [if_neg]; rfl
    exact fun q => h (isC_nI b1 (by omega) b3)
  · rw [if_neg]; rfl
    intro q
    obtain ⟨c, hc⟩ : ∃ c, cZ k = c + 1 := ⟨cZ k - 1, by omega⟩
    rw [hc, pk_m1] at h
    exact h (isC_nI b1 b2 (by omega))
  · rw [if_neg]; rfl
    exact fun q => h (isC_nI b1 b2 (by omega))
theorem nxt_yes {k d a b c : Nat} (hk : k < 1152) (hd : d < 6) (ha : a < 12) (hb : b < 8) (hc : c < 12) (hx : nI a = nI (cX k) + dlX d) (hy : nI b = nI (cY k) + dlY d) (hz : nI c = nI (cZ k) + dlZ d) : nI (cel a b c) = oI (nbr k d) := by
  have b1 := cX_lt k
  have b2 := cY_lt k
  have b3 := cZ_lt hk
  have ek := cel_c hk
  have e : ∀ {u v : Nat}, u < 100 → v < 100 → nI u = nI v → u = v := fun hu hv q => (nI_eq (by omega) (by omega)).mp q
  rcases (show d = 0 ∨ d = 1 ∨ d = 2 ∨ d = 3 ∨ d = 4 ∨ d = 5 by omega) with rfl | rfl | rfl | rfl | rfl | rfl <;> simp only [nbr, dlX, dlY, dlZ, p1_i, p0_i] at hx hy hz ⊢
  · have h1 := m1_i (by omega) (by omega) hx.symm
    have h2 := e (by omega) (by omega) hy
    have h3 := e (by omega) (by omega) hz
    rw [if_pos (by omega)]
    refine congrArg nI ?_
    rw [h2, h3]; unfold cel at ek ⊢; omega
  · have h1 := e (by omega) (by omega) hx
    have h2 := e (by omega) (by omega) hy
    have h3 := e (by omega) (by omega) hz
    rw [if_pos (by omega)]
    refine congrArg nI ?_
    rw [h2, h3]; unfold cel at ek ⊢; omega
  · have h1 := e (by omega) (by omega) hx
    have h2 := m1_i (by omega) (by omega) hy.symm
    have h3 := e (by omega) (by omega) hz
    rw [if_pos (by omega)]
    refine congrArg nI ?_
    rw [h1, h3]; unfold cel at ek ⊢; omega
  · have h1 := e (by omega) (by omega) hx
    have h2 := e (by omega) (by omega) hy
    have h3 := e (by omega) (by omega) hz
    rw [if_pos (by omega)]
    refine congrArg nI ?_
    rw [h1, h3]; unfold cel at ek ⊢; omega
  · have h1 := e (by omega) (by omega) hx
    have h2 := e (by omega) (by omega) hy
    have h3 := m1_i (by omega) (by omega) hz.symm
    rw [if_pos (by omega)]
    refine congrArg nI ?_
    rw [h1, h2]; unfold cel at ek ⊢; omega
  · have h1 := e (by omega) (by omega) hx
    have h2 := e (by omega) (by omega) hy
    have h3 := e (by omega) (by omega) hz
    rw [if_pos (by omega)]
    refine congrArg nI ?_
    rw [h1, h2]; unfold cel at ek ⊢; omega
set_option maxHeartbeats 4000000 in
set_option maxRecDepth 100000 in
theorem k_X7_next {σ : Mem} {k d : Nat} (hk : k < 1152) (hd : d < 6) : CtI objM NM yX7_next cX7_next 6 .int 2 44 [.int (nI k), .int (nI d)] σ (Pv (oI (nbr k d)) σ) := by
  refine ct_ofI rfl ?_ (Nat.le_of_ble_eq_true rfl) (fun X C hr => ?_)
  · intro v hv; simp only [List.mem_cons, List.not_mem_nil, or_false] at hv; rcases hv with rfl | rfl <;> rfl
  · have T : ∀ (v2 x y z : Int32), x = nI (cX k) + dlX d → y = nI (cY k) + dlY d → z = nI (cZ k) + dlZ d → Go objM NM X 67 [some (.int (nI k)), some (.int (nI d)), some (.int v2), some (.int x), some (.int y), some (.int z)] [] σ := by
      intro v2 x y z hx hy hz
      refine go_iload_n C dX7_next_67 rfl ?_
      refine go_iload C dX7_next_68 rfl ?_
      refine go_iload C dX7_next_70 rfl ?_
      refine go_S3P C ok_X7_isCell lk_X7_71 dX7_next_72 (k_X7_isCell _ _ _) (by decide) (Nat.le_of_ble_eq_true rfl) ?_
      refine go_if_eqB C 89 dX7_next_75 (by decide) (fun h75 => ?_) (fun h75 => ?_)
      · skip
        refine go_iconst C (-1) dX7_next_89 rfl ?_
        refine go_iret hr dX7_next_90 rfl ?_
        first | exact ⟨nxt_no hk hd hx hy hz h75, rfl⟩ | exact ⟨nxt_yes hk hd ha hb hc hx hy hz, rfl⟩
      · obtain ⟨r1, r2, r3⟩ := h75
        obtain ⟨a, ha, rfl⟩ := rng_nat (by decide) r1
        obtain ⟨b, hb, rfl⟩ := rng_nat (by decide) r2
        obtain ⟨c, hc, rfl⟩ := rng_nat (by decide) r3
        refine go_iload_n C dX7_next_78 rfl ?_
        refine go_iload C dX7_next_79 rfl ?_
        refine go_iload C dX7_next_81 rfl ?_
        refine go_S3P C ok_X7_cell lk_X7_74 dX7_next_83 k_X7_cell (by decide) (Nat.le_of_ble_eq_true rfl) ?_
        refine go_goto C 90 dX7_next_86 (by decide) ?_
        refine go_iret hr dX7_next_90 rfl ?_
        first | exact ⟨nxt_no hk hd hx hy hz h75, rfl⟩ | exact ⟨nxt_yes hk hd ha hb hc hx hy hz, rfl⟩
    rcases (show d = 0 ∨ d = 1 ∨ d = 2 ∨ d = 3 ∨ d = 4 ∨ d = 5 by omega) with rfl | rfl | rfl | rfl | rfl | rfl
    · refine go_iload_n C dX7_next_0 rfl ?_
      refine go_iconst C (nI 2) dX7_next_1 rfl ?_
      refine go_iremN C dX7_next_2 (by omega) (by omega) (by omega) ?_
      refine go_if_neN C 10 dX7_next_3 (by decide) (by omega) (fun h3 => ?_) (fun h3 => ?_)
      · exact absurd h3 (by omega)
      · refine go_iconst C (-1) dX7_next_6 rfl ?_
        refine go_goto C 11 dX7_next_7 (by decide) ?_
        refine go_istore_n C dX7_next_11 (by decide) rfl rfl ?_
        refine go_iload_n C dX7_next_12 rfl ?_
        refine go_S1P C ok_X7_xOf lk_X7_68 dX7_next_13 (k_X7_xOf (by omega)) (by decide) (Nat.le_of_ble_eq_true rfl) ?_
        refine go_iload_n C dX7_next_16 rfl ?_
        refine go_iconst C (nI 2) dX7_next_17 rfl ?_
        refine go_icmp_geN C 25 dX7_next_18 (by decide) (by omega) (by omega) (fun h18 => ?_) (fun h18 => ?_)
        · exact absurd h18 (by omega)
        · refine go_iload_n C dX7_next_21 rfl ?_
          refine go_goto C 26 dX7_next_22 (by decide) ?_
          refine go_iadd C dX7_next_26 ?_
          refine go_istore_n C dX7_next_27 (by decide) rfl rfl ?_
          refine go_iload_n C dX7_next_28 rfl ?_
          refine go_S1P C ok_X7_yOf lk_X7_65 dX7_next_29 (k_X7_yOf (by omega)) (by decide) (Nat.le_of_ble_eq_true rfl) ?_
          refine go_iload_n C dX7_next_32 rfl ?_
          refine go_iconst C (nI 2) dX7_next_33 rfl ?_
          refine go_icmp_eqN C 42 dX7_next_34 (by decide) (by omega) (by omega) (fun h34 => ?_) (fun h34 => ?_)
          · exact absurd h34 (by omega)
          · refine go_iload_n C dX7_next_37 rfl ?_
            refine go_iconst C (nI 3) dX7_next_38 rfl ?_
            refine go_icmp_neN C 46 dX7_next_39 (by decide) (by omega) (by omega) (fun h39 => ?_) (fun h39 => ?_)
            · refine go_iconst C (nI 0) dX7_next_46 rfl ?_
              refine go_iaddN C dX7_next_47 ?_
              refine go_istore C dX7_next_48 (by decide) rfl rfl ?_
              refine go_iload_n C dX7_next_50 rfl ?_
              refine go_S1P C ok_X7_zOf lk_X7_61 dX7_next_51 (k_X7_zOf (by omega)) (by decide) (Nat.le_of_ble_eq_true rfl) ?_
              refine go_iload_n C dX7_next_54 rfl ?_
              refine go_iconst C (nI 3) dX7_next_55 rfl ?_
              refine go_icmp_leN C 63 dX7_next_56 (by decide) (by omega) (by omega) (fun h56 => ?_) (fun h56 => ?_)
              · refine go_iconst C (nI 0) dX7_next_63 rfl ?_
                refine go_iaddN C dX7_next_64 ?_
                refine go_istore C dX7_next_65 (by decide) rfl rfl ?_
                exact T _ _ _ _ (by simp only [dlX, dlY, dlZ, p1_i, p0_i, Nat.add_zero]) (by simp only [dlX, dlY, dlZ, p1_i, p0_i, Nat.add_zero]) (by simp only [dlX, dlY, dlZ, p1_i, p0_i, Nat.add_zero])
              · exact absurd h56 (by omega)
            · exact absurd h39 (by omega)
    · refine go_iload_n C dX7_next_0 rfl ?_
      refine go_iconst C (nI 2) dX7_next_1 rfl ?_
      refine go_iremN C dX7_next_2 (by omega) (by omega) (by omega) ?_
      refine go_if_neN C 10 dX7_next_3 (by decide) (by omega) (fun h3 => ?_) (fun h3 => ?_)
      · refine go_iconst C (nI 1) dX7_next_10 rfl ?_
        refine go_istore_n C dX7_next_11 (by decide) rfl rfl ?_
        refine go_iload_n C dX7_next_12 rfl ?_
        refine go_S1P C ok_X7_xOf lk_X7_68 dX7_next_13 (k_X7_xOf (by omega)) (by decide) (Nat.le_of_ble_eq_true rfl) ?_
        refine go_iload_n C dX7_next_16 rfl ?_
        refine go_iconst C (nI 2) dX7_next_17 rfl ?_
        refine go_icmp_geN C 25 dX7_next_18 (by decide) (by omega) (by omega) (fun h18 => ?_) (fun h18 => ?_)
        · exact absurd h18 (by omega)
        · refine go_iload_n C dX7_next_21 rfl ?_
          refine go_goto C 26 dX7_next_22 (by decide) ?_
          refine go_iaddN C dX7_next_26 ?_
          refine go_istore_n C dX7_next_27 (by decide) rfl rfl ?_
          refine go_iload_n C dX7_next_28 rfl ?_
          refine go_S1P C ok_X7_yOf lk_X7_65 dX7_next_29 (k_X7_yOf (by omega)) (by decide) (Nat.le_of_ble_eq_true rfl) ?_
          refine go_iload_n C dX7_next_32 rfl ?_
          refine go_iconst C (nI 2) dX7_next_33 rfl ?_
          refine go_icmp_eqN C 42 dX7_next_34 (by decide) (by omega) (by omega) (fun h34 => ?_) (fun h34 => ?_)
          · exact absurd h34 (by omega)
          · refine go_iload_n C dX7_next_37 rfl ?_
            refine go_iconst C (nI 3) dX7_next_38 rfl ?_
            refine go_icmp_neN C 46 dX7_next_39 (by decide) (by omega) (by omega) (fun h39 => ?_) (fun h39 => ?_)
            · refine go_iconst C (nI 0) dX7_next_46 rfl ?_
              refine go_iaddN C dX7_next_47 ?_
              refine go_istore C dX7_next_48 (by decide) rfl rfl ?_
              refine go_iload_n C dX7_next_50 rfl ?_
              refine go_S1P C ok_X7_zOf lk_X7_61 dX7_next_51 (k_X7_zOf (by omega)) (by decide) (Nat.le_of_ble_eq_true rfl) ?_
              refine go_iload_n C dX7_next_54 rfl ?_
              refine go_iconst C (nI 3) dX7_next_55 rfl ?_
              refine go_icmp_leN C 63 dX7_next_56 (by decide) (by omega) (by omega) (fun h56 => ?_) (fun h56 => ?_)
              · refine go_iconst C (nI 0) dX7_next_63 rfl ?_
                refine go_iaddN C dX7_next_64 ?_
                refine go_istore C dX7_next_65 (by decide) rfl rfl ?_
                exact T _ _ _ _ (by simp only [dlX, dlY, dlZ, p1_i, p0_i, Nat.add_zero]) (by simp only [dlX, dlY, dlZ, p1_i, p0_i, Nat.add_zero]) (by simp only [dlX, dlY, dlZ, p1_i, p0_i, Nat.add_zero])
              · exact absurd h56 (by omega)
            · exact absurd h39 (by omega)
      · exact absurd h3 (by omega)
    · refine go_iload_n C dX7_next_0 rfl ?_
      refine go_iconst C (nI 2) dX7_next_1 rfl ?_
      refine go_iremN C dX7_next_2 (by omega) (by omega) (by omega) ?_
      refine go_if_neN C 10 dX7_next_3 (by decide) (by omega) (fun h3 => ?_) (fun h3 => ?_)
      · exact absurd h3 (by omega)
      · refine go_iconst C (-1) dX7_next_6 rfl ?_
        refine go_goto C 11 dX7_next_7 (by decide) ?_
        refine go_istore_n C dX7_next_11 (by decide) rfl rfl ?_
        refine go_iload_n C dX7_next_12 rfl ?_
        refine go_S1P C ok_X7_xOf lk_X7_68 dX7_next_13 (k_X7_xOf (by omega)) (by decide) (Nat.le_of_ble_eq_true rfl) ?_
        refine go_iload_n C dX7_next_16 rfl ?_
        refine go_iconst C (nI 2) dX7_next_17 rfl ?_
        refine go_icmp_geN C 25 dX7_next_18 (by decide) (by omega) (by omega) (fun h18 => ?_) (fun h18 => ?_)
        · refine go_iconst C (nI 0) dX7_next_25 rfl ?_
          refine go_iaddN C dX7_next_26 ?_
          refine go_istore_n C dX7_next_27 (by decide) rfl rfl ?_
          refine go_iload_n C dX7_next_28 rfl ?_
          refine go_S1P C ok_X7_yOf lk_X7_65 dX7_next_29 (k_X7_yOf (by omega)) (by decide) (Nat.le_of_ble_eq_true rfl) ?_
          refine go_iload_n C dX7_next_32 rfl ?_
          refine go_iconst C (nI 2) dX7_next_33 rfl ?_
          refine go_icmp_eqN C 42 dX7_next_34 (by decide) (by omega) (by omega) (fun h34 => ?_) (fun h34 => ?_)
          · refine go_iload_n C dX7_next_42 rfl ?_
            refine go_goto C 47 dX7_next_43 (by decide) ?_
            refine go_iadd C dX7_next_47 ?_
            refine go_istore C dX7_next_48 (by decide) rfl rfl ?_
            refine go_iload_n C dX7_next_50 rfl ?_
            refine go_S1P C ok_X7_zOf lk_X7_61 dX7_next_51 (k_X7_zOf (by omega)) (by decide) (Nat.le_of_ble_eq_true rfl) ?_
            refine go_iload_n C dX7_next_54 rfl ?_
            refine go_iconst C (nI 3) dX7_next_55 rfl ?_
            refine go_icmp_leN C 63 dX7_next_56 (by decide) (by omega) (by omega) (fun h56 => ?_) (fun h56 => ?_)
            · refine go_iconst C (nI 0) dX7_next_63 rfl ?_
              refine go_iaddN C dX7_next_64 ?_
              refine go_istore C dX7_next_65 (by decide) rfl rfl ?_
              exact T _ _ _ _ (by simp only [dlX, dlY, dlZ, p1_i, p0_i, Nat.add_zero]) (by simp only [dlX, dlY, dlZ, p1_i, p0_i, Nat.add_zero]) (by simp only [dlX, dlY, dlZ, p1_i, p0_i, Nat.add_zero])
            · exact absurd h56 (by omega)
          · exact absurd h34 (by omega)
        · exact absurd h18 (by omega)
    · refine go_iload_n C dX7_next_0 rfl ?_
      refine go_iconst C (nI 2) dX7_next_1 rfl ?_
      refine go_iremN C dX7_next_2 (by omega) (by omega) (by omega) ?_
      refine go_if_neN C 10 dX7_next_3 (by decide) (by omega) (fun h3 => ?_) (fun h3 => ?_)
      · refine go_iconst C (nI 1) dX7_next_10 rfl ?_
        refine go_istore_n C dX7_next_11 (by decide) rfl rfl ?_
        refine go_iload_n C dX7_next_12 rfl ?_
        refine go_S1P C ok_X7_xOf lk_X7_68 dX7_next_13 (k_X7_xOf (by omega)) (by decide) (Nat.le_of_ble_eq_true rfl) ?_
        refine go_iload_n C dX7_next_16 rfl ?_
        refine go_iconst C (nI 2) dX7_next_17 rfl ?_
        refine go_icmp_geN C 25 dX7_next_18 (by decide) (by omega) (by omega) (fun h18 => ?_) (fun h18 => ?_)
        · refine go_iconst C (nI 0) dX7_next_25 rfl ?_
          refine go_iaddN C dX7_next_26 ?_
          refine go_istore_n C dX7_next_27 (by decide) rfl rfl ?_
          refine go_iload_n C dX7_next_28 rfl ?_
          refine go_S1P C ok_X7_yOf lk_X7_65 dX7_next_29 (k_X7_yOf (by omega)) (by decide) (Nat.le_of_ble_eq_true rfl) ?_
          refine go_iload_n C dX7_next_32 rfl ?_
          refine go_iconst C (nI 2) dX7_next_33 rfl ?_
          refine go_icmp_eqN C 42 dX7_next_34 (by decide) (by omega) (by omega) (fun h34 => ?_) (fun h34 => ?_)
          · exact absurd h34 (by omega)
          · refine go_iload_n C dX7_next_37 rfl ?_
            refine go_iconst C (nI 3) dX7_next_38 rfl ?_
            refine go_icmp_neN C 46 dX7_next_39 (by decide) (by omega) (by omega) (fun h39 => ?_) (fun h39 => ?_)
            · exact absurd h39 (by omega)
            · refine go_iload_n C dX7_next_42 rfl ?_
              refine go_goto C 47 dX7_next_43 (by decide) ?_
              refine go_iaddN C dX7_next_47 ?_
              refine go_istore C dX7_next_48 (by decide) rfl rfl ?_
              refine go_iload_n C dX7_next_50 rfl ?_
              refine go_S1P C ok_X7_zOf lk_X7_61 dX7_next_51 (k_X7_zOf (by omega)) (by decide) (Nat.le_of_ble_eq_true rfl) ?_
              refine go_iload_n C dX7_next_54 rfl ?_
              refine go_iconst C (nI 3) dX7_next_55 rfl ?_
              refine go_icmp_leN C 63 dX7_next_56 (by decide) (by omega) (by omega) (fun h56 => ?_) (fun h56 => ?_)
              · refine go_iconst C (nI 0) dX7_next_63 rfl ?_
                refine go_iaddN C dX7_next_64 ?_
                refine go_istore C dX7_next_65 (by decide) rfl rfl ?_
                exact T _ _ _ _ (by simp only [dlX, dlY, dlZ, p1_i, p0_i, Nat.add_zero]) (by simp only [dlX, dlY, dlZ, p1_i, p0_i, Nat.add_zero]) (by simp only [dlX, dlY, dlZ, p1_i, p0_i, Nat.add_zero])
              · exact absurd h56 (by omega)
        · exact absurd h18 (by omega)
      · exact absurd h3 (by omega)
    · refine go_iload_n C dX7_next_0 rfl ?_
      refine go_iconst C (nI 2) dX7_next_1 rfl ?_
      refine go_iremN C dX7_next_2 (by omega) (by omega) (by omega) ?_
      refine go_if_neN C 10 dX7_next_3 (by decide) (by omega) (fun h3 => ?_) (fun h3 => ?_)
      · exact absurd h3 (by omega)
      · refine go_iconst C (-1) dX7_next_6 rfl ?_
        refine go_goto C 11 dX7_next_7 (by decide) ?_
        refine go_istore_n C dX7_next_11 (by decide) rfl rfl ?_
        refine go_iload_n C dX7_next_12 rfl ?_
        refine go_S1P C ok_X7_xOf lk_X7_68 dX7_next_13 (k_X7_xOf (by omega)) (by decide) (Nat.le_of_ble_eq_true rfl) ?_
        refine go_iload_n C dX7_next_16 rfl ?_
        refine go_iconst C (nI 2) dX7_next_17 rfl ?_
        refine go_icmp_geN C 25 dX7_next_18 (by decide) (by omega) (by omega) (fun h18 => ?_) (fun h18 => ?_)
        · refine go_iconst C (nI 0) dX7_next_25 rfl ?_
          refine go_iaddN C dX7_next_26 ?_
          refine go_istore_n C dX7_next_27 (by decide) rfl rfl ?_
          refine go_iload_n C dX7_next_28 rfl ?_
          refine go_S1P C ok_X7_yOf lk_X7_65 dX7_next_29 (k_X7_yOf (by omega)) (by decide) (Nat.le_of_ble_eq_true rfl) ?_
          refine go_iload_n C dX7_next_32 rfl ?_
          refine go_iconst C (nI 2) dX7_next_33 rfl ?_
          refine go_icmp_eqN C 42 dX7_next_34 (by decide) (by omega) (by omega) (fun h34 => ?_) (fun h34 => ?_)
          · exact absurd h34 (by omega)
          · refine go_iload_n C dX7_next_37 rfl ?_
            refine go_iconst C (nI 3) dX7_next_38 rfl ?_
            refine go_icmp_neN C 46 dX7_next_39 (by decide) (by omega) (by omega) (fun h39 => ?_) (fun h39 => ?_)
            · refine go_iconst C (nI 0) dX7_next_46 rfl ?_
              refine go_iaddN C dX7_next_47 ?_
              refine go_istore C dX7_next_48 (by decide) rfl rfl ?_
              refine go_iload_n C dX7_next_50 rfl ?_
              refine go_S1P C ok_X7_zOf lk_X7_61 dX7_next_51 (k_X7_zOf (by omega)) (by decide) (Nat.le_of_ble_eq_true rfl) ?_
              refine go_iload_n C dX7_next_54 rfl ?_
              refine go_iconst C (nI 3) dX7_next_55 rfl ?_
              refine go_icmp_leN C 63 dX7_next_56 (by decide) (by omega) (by omega) (fun h56 => ?_) (fun h56 => ?_)
              · exact absurd h56 (by omega)
              · refine go_iload_n C dX7_next_59 rfl ?_
                refine go_goto C 64 dX7_next_60 (by decide) ?_
                refine go_iadd C dX7_next_64 ?_
                refine go_istore C dX7_next_65 (by decide) rfl rfl ?_
                exact T _ _ _ _ (by simp only [dlX, dlY, dlZ, p1_i, p0_i, Nat.add_zero]) (by simp only [dlX, dlY, dlZ, p1_i, p0_i, Nat.add_zero]) (by simp only [dlX, dlY, dlZ, p1_i, p0_i, Nat.add_zero])
            · exact absurd h39 (by omega)
        · exact absurd h18 (by omega)
    · refine go_iload_n C dX7_next_0 rfl ?_
      refine go_iconst C (nI 2) dX7_next_1 rfl ?_
      refine go_iremN C dX7_next_2 (by omega) (by omega) (by omega) ?_
      refine go_if_neN C 10 dX7_next_3 (by decide) (by omega) (fun h3 => ?_) (fun h3 => ?_)
      · refine go_iconst C (nI 1) dX7_next_10 rfl ?_
        refine go_istore_n C dX7_next_11 (by decide) rfl rfl ?_
        refine go_iload_n C dX7_next_12 rfl ?_
        refine go_S1P C ok_X7_xOf lk_X7_68 dX7_next_13 (k_X7_xOf (by omega)) (by decide) (Nat.le_of_ble_eq_true rfl) ?_
        refine go_iload_n C dX7_next_16 rfl ?_
        refine go_iconst C (nI 2) dX7_next_17 rfl ?_
        refine go_icmp_geN C 25 dX7_next_18 (by decide) (by omega) (by omega) (fun h18 => ?_) (fun h18 => ?_)
        · refine go_iconst C (nI 0) dX7_next_25 rfl ?_
          refine go_iaddN C dX7_next_26 ?_
          refine go_istore_n C dX7_next_27 (by decide) rfl rfl ?_
          refine go_iload_n C dX7_next_28 rfl ?_
          refine go_S1P C ok_X7_yOf lk_X7_65 dX7_next_29 (k_X7_yOf (by omega)) (by decide) (Nat.le_of_ble_eq_true rfl) ?_
          refine go_iload_n C dX7_next_32 rfl ?_
          refine go_iconst C (nI 2) dX7_next_33 rfl ?_
          refine go_icmp_eqN C 42 dX7_next_34 (by decide) (by omega) (by omega) (fun h34 => ?_) (fun h34 => ?_)
          · exact absurd h34 (by omega)
          · refine go_iload_n C dX7_next_37 rfl ?_
            refine go_iconst C (nI 3) dX7_next_38 rfl ?_
            refine go_icmp_neN C 46 dX7_next_39 (by decide) (by omega) (by omega) (fun h39 => ?_) (fun h39 => ?_)
            · refine go_iconst C (nI 0) dX7_next_46 rfl ?_
              refine go_iaddN C dX7_next_47 ?_
              refine go_istore C dX7_next_48 (by decide) rfl rfl ?_
              refine go_iload_n C dX7_next_50 rfl ?_
              refine go_S1P C ok_X7_zOf lk_X7_61 dX7_next_51 (k_X7_zOf (by omega)) (by decide) (Nat.le_of_ble_eq_true rfl) ?_
              refine go_iload_n C dX7_next_54 rfl ?_
              refine go_iconst C (nI 3) dX7_next_55 rfl ?_
              refine go_icmp_leN C 63 dX7_next_56 (by decide) (by omega) (by omega) (fun h56 => ?_) (fun h56 => ?_)
              · exact absurd h56 (by omega)
              · refine go_iload_n C dX7_next_59 rfl ?_
                refine go_goto C 64 dX7_next_60 (by decide) ?_
                refine go_iaddN C dX7_next_64 ?_
                refine go_istore C dX7_next_65 (by decide) rfl rfl ?_
                exact T _ _ _ _ (by simp only [dlX, dlY, dlZ, p1_i, p0_i, Nat.add_zero]) (by simp only [dlX, dlY, dlZ, p1_i, p0_i, Nat.add_zero]) (by simp only [dlX, dlY, dlZ, p1_i, p0_i, Nat.add_zero])
            · exact absurd h39 (by omega)
        · exact absurd h18 (by omega)
      · exact absurd h3 (by omega)
end
section
def FrM (σ τ : Mem) : Prop := ∀ q, q ≠ 6 → τ q = σ q
theorem FrM.refl {σ : Mem} : FrM σ σ := fun _ _ => rfl
theorem FrM.trans {σ τ ρ : Mem} (h1 : FrM σ τ) (h2 : FrM τ ρ) : FrM σ ρ := fun q a => (h2 q a).trans (h1 q a)
/-- the types, losses and emissions that the model works with: those of w, with e in place of the emission in the cell qe -/
def View (τ : Mem) (w : Wd) (q qe e : Nat) : Prop :=
  (∀ k, k < 1152 → (nI k = τ 0 8 ↔ k = q)) ∧ (∀ k, k < 1152 → k ≠ q → τ 1 k = nI (wT w k)) ∧ (∀ k, k < 1152 → k = q → τ 0 9 = nI (wT w k)) ∧ (∀ j, j < 32 → τ 1 (1152 + j) = nI (wL w j)) ∧ (∀ j, j < 32 → τ 1 (1184 + j) = nI (wE w j)) ∧ ((1152 ≤ q ∧ 1152 ≤ qe) ∨ (τ 0 10 < 0 ∧ 1152 ≤ qe) ∨ (τ 0 10 = nI e ∧ qe = q ∧ e < 16))
theorem View.of {σ τ : Mem} {w : Wd} {q qe e : Nat} (h : View σ w q qe e) (h0 : τ 0 = σ 0) (h1 : τ 1 = σ 1) : View τ w q qe e := by
  unfold View
  rw [h0, h1]
  exact h
theorem FrM.V {σ τ : Mem} (h : FrM σ τ) {w : Wd} {q qe e : Nat} (hV : View σ w q qe e) : View τ w q qe e := hV.of (h 0 (by decide)) (h 1 (by decide))
section GOO2
variable {obj : Nat → Lay} {N : Nat} {cc : ByteArray} {nL : Nat} {own : String} {fr lo : Nat} {X : GX} {pc : Nat} {lv : List (Option Value)} {st : List Value} {σ : Mem} {o : Option Nat}
theorem go_if_ltO (C : OkX obj N cc nL own fr lo X) {off : Int} (tgt : Nat) (d : decode cc pc = .ok (.ifCond .lt off, 3)) (ht : (pc : Int) + off = (tgt : Int)) (ho : ∀ j, o = some j → j < 2 ^ 31) (kt : o = none → Go obj N X tgt lv st σ) (kf : (∃ j, o = some j) → Go obj N X (pc + 3) lv st σ) : Go obj N X pc lv (.int (oI o) :: st) σ := go_if_lt C tgt d ht (fun h => kt (by
    cases o with
    | none => rfl
    | some j => exact absurd h (nI_pos (ho j rfl)))) (fun h => kf (by
    cases o with
    | none => exact absurd (show (-1 : Int32) < 0 by decide) h
    | some j => exact ⟨j, rfl⟩))
end GOO2
def mx (a b : Int32) : Int32 := if a < b then b else a
theorem mx_nI {a b : Nat} (ha : a < 2 ^ 31) (hb : b < 2 ^ 31) : mx (nI a) (nI b) = nI (max a b) := by
  unfold mx
  by_cases h : a < b
  · rw [if_pos ((nI_ltI ha hb).mpr h), Nat.max_eq_right (Nat.le_of_lt h)]
  · rw [if_neg (fun q => h ((nI_ltI ha hb).mp q)), Nat.max_eq_left (Nat.le_of_not_lt h)]
theorem mx_sub {u g l : Nat} (hu : u < 2 ^ 30) (hg : g < 2 ^ 30) (hl : l < 2 ^ 30) : mx (nI u) (nI g - nI l) = nI (max u (g - l)) := by
  rcases Nat.lt_or_ge g l with h | h
  · unfold mx
    rw [if_neg (fun q => by
      have := sb_le hg hl hu
      exact absurd (this.mpr (by omega)) (Int32.not_le.mpr q)), Nat.max_eq_left (by omega)]
  · rw [pk_sub h, mx_nI (by omega) (by omega)]
set_option maxHeartbeats 4000000 in
set_option maxRecDepth 100000 in
theorem k_X7_typeOf {σ : Mem} {w : Wd} {q qe e : Nat} (hO : OkW w) (hV : View σ w q qe e) {k : Nat} (hk : k < 1152) : CtI objM NM yX7_typeOf cX7_typeOf 2 .int 0 0 [.ref 0, .int (nI k)] σ (Pv (nI (wT w k)) σ) := by
  refine ct_ofI rfl ?_ (Nat.le_of_ble_eq_true rfl) (fun X C hr => ?_)
  · intro v hv; simp only [List.mem_cons, List.not_mem_nil, or_false] at hv; rcases hv with rfl | rfl <;> rfl
  · refine go_iload_n C dX7_typeOf_0 rfl ?_
    refine go_aload_n C dX7_typeOf_1 rfl ?_
    refine go_getI C gf_X7_29 dX7_typeOf_2 (by decide) rfl rfl ?_
    refine go_icmp_ne C 15 dX7_typeOf_5 (by decide) (fun h5 => ?_) (fun h5 => ?_)
    · refine go_aload_n C dX7_typeOf_15 rfl ?_
      refine go_getR C gf_X7_9 dX7_typeOf_16 (by decide) rfl rfl ?_
      refine go_iload_n C dX7_typeOf_19 rfl ?_
      refine go_ialdN C dX7_typeOf_20 (by decide) rfl (by decide) (by omega) ?_
      refine go_iret hr dX7_typeOf_21 rfl ?_
      first | exact ⟨hV.2.2.1 k hk ((hV.1 k hk).mp h5), rfl⟩ | exact ⟨hV.2.1 k hk (fun z => h5 ((hV.1 k hk).mpr z)), rfl⟩
    · refine go_aload_n C dX7_typeOf_8 rfl ?_
      refine go_getI C gf_X7_78 dX7_typeOf_9 (by decide) rfl rfl ?_
      refine go_goto C 21 dX7_typeOf_12 (by decide) ?_
      refine go_iret hr dX7_typeOf_21 rfl ?_
      first | exact ⟨hV.2.2.1 k hk ((hV.1 k hk).mp h5), rfl⟩ | exact ⟨hV.2.1 k hk (fun z => h5 ((hV.1 k hk).mpr z)), rfl⟩
set_option maxHeartbeats 4000000 in
set_option maxRecDepth 100000 in
theorem k_X7_lossOf {σ : Mem} {w : Wd} {q qe e : Nat} (hO : OkW w) (hV : View σ w q qe e) {k c : Nat} (hk : k < 1152) (hc : c < 4) : CtI objM NM yX7_lossOf cX7_lossOf 3 .int 1 21 [.ref 0, .int (nI k), .int (nI c)] σ (Pv (nI (lossN w c k)) σ) := by
  have ht := hO.1 k hk
  refine ct_ofI rfl ?_ (Nat.le_of_ble_eq_true rfl) (fun X C hr => ?_)
  · intro v hv; simp only [List.mem_cons, List.not_mem_nil, or_false] at hv; rcases hv with rfl | rfl | rfl <;> rfl
  · refine go_aload_n C dX7_lossOf_0 rfl ?_
    refine go_getR C gf_X7_9 dX7_lossOf_1 (by decide) rfl rfl ?_
    refine go_sipush C (nI 1152) dX7_lossOf_4 rfl ?_
    refine go_iconst C (nI 4) dX7_lossOf_7 rfl ?_
    refine go_aload_n C dX7_lossOf_8 rfl ?_
    refine go_iload_n C dX7_lossOf_9 rfl ?_
    refine go_V1P C ok_X7_typeOf lk_X7_81 dX7_lossOf_10 (by decide) rfl rfl rfl (k_X7_typeOf hO hV (by omega)) (by decide) (Nat.le_of_ble_eq_true rfl) ?_
    refine go_imulN C dX7_lossOf_13 ?_
    refine go_iaddN C dX7_lossOf_14 ?_
    refine go_iload_n C dX7_lossOf_15 rfl ?_
    refine go_iaddN C dX7_lossOf_16 ?_
    refine go_ialdN C dX7_lossOf_17 (by decide) rfl (by decide) (by omega) ?_
    refine go_iret hr dX7_lossOf_18 rfl ?_
    exact ⟨by rw [Nat.add_assoc]; exact hV.2.2.2.1 _ (by omega), rfl⟩
set_option maxHeartbeats 4000000 in
set_option maxRecDepth 100000 in
theorem k_X7_emissionOf {σ : Mem} {w : Wd} {q qe e : Nat} (hO : OkW w) (hV : View σ w q qe e) {k c : Nat} (hk : k < 1152) (hc : c < 4) : CtI objM NM yX7_emissionOf cX7_emissionOf 3 .int 1 21 [.ref 0, .int (nI k), .int (nI c)] σ (Pv (nI (if k = qe then e else emN w c k)) σ) := by
  have ht := hO.1 k hk
  refine ct_ofI rfl ?_ (Nat.le_of_ble_eq_true rfl) (fun X C hr => ?_)
  · intro v hv; simp only [List.mem_cons, List.not_mem_nil, or_false] at hv; rcases hv with rfl | rfl | rfl <;> rfl
  · refine go_iload_n C dX7_emissionOf_0 rfl ?_
    refine go_aload_n C dX7_emissionOf_1 rfl ?_
    refine go_getI C gf_X7_29 dX7_emissionOf_2 (by decide) rfl rfl ?_
    refine go_icmp_ne C 22 dX7_emissionOf_5 (by decide) (fun h5 => ?_) (fun h5 => ?_)
    · have hn : k ≠ qe := by
        have hq : k ≠ q := fun z => h5 ((hV.1 k hk).mpr z)
        rcases hV.2.2.2.2.2 with z | z | z
        · omega
        · omega
        · omega
      refine go_aload_n C dX7_emissionOf_22 rfl ?_
      refine go_getR C gf_X7_9 dX7_emissionOf_23 (by decide) rfl rfl ?_
      refine go_sipush C (nI 1184) dX7_emissionOf_26 rfl ?_
      refine go_iconst C (nI 4) dX7_emissionOf_29 rfl ?_
      refine go_aload_n C dX7_emissionOf_30 rfl ?_
      refine go_iload_n C dX7_emissionOf_31 rfl ?_
      refine go_V1P C ok_X7_typeOf lk_X7_81 dX7_emissionOf_32 (by decide) rfl rfl rfl (k_X7_typeOf hO hV (by omega)) (by decide) (Nat.le_of_ble_eq_true rfl) ?_
      refine go_imulN C dX7_emissionOf_35 ?_
      refine go_iaddN C dX7_emissionOf_36 ?_
      refine go_iload_n C dX7_emissionOf_37 rfl ?_
      refine go_iaddN C dX7_emissionOf_38 ?_
      refine go_ialdN C dX7_emissionOf_39 (by decide) rfl (by decide) (by omega) ?_
      refine go_iret hr dX7_emissionOf_40 rfl ?_
      first | exact ⟨by rw [if_neg hn, Nat.add_assoc]; exact hV.2.2.2.2.1 _ (by omega), rfl⟩ | exact ⟨by rw [if_pos (by omega)]; exact hB.1, rfl⟩
    · refine go_aload_n C dX7_emissionOf_8 rfl ?_
      refine go_getI C gf_X7_84 dX7_emissionOf_9 (by decide) rfl rfl ?_
      refine go_if_lt C 22 dX7_emissionOf_12 (by decide) (fun h12 => ?_) (fun h12 => ?_)
      · have hn : k ≠ qe := by
          have hq := (hV.1 k hk).mp h5
          rcases hV.2.2.2.2.2 with z | z | z
          · omega
          · omega
          · rw [z.1] at h12; exact absurd h12 (nI_pos (by omega))
        refine go_aload_n C dX7_emissionOf_22 rfl ?_
        refine go_getR C gf_X7_9 dX7_emissionOf_23 (by decide) rfl rfl ?_
        refine go_sipush C (nI 1184) dX7_emissionOf_26 rfl ?_
        refine go_iconst C (nI 4) dX7_emissionOf_29 rfl ?_
        refine go_aload_n C dX7_emissionOf_30 rfl ?_
        refine go_iload_n C dX7_emissionOf_31 rfl ?_
        refine go_V1P C ok_X7_typeOf lk_X7_81 dX7_emissionOf_32 (by decide) rfl rfl rfl (k_X7_typeOf hO hV (by omega)) (by decide) (Nat.le_of_ble_eq_true rfl) ?_
        refine go_imulN C dX7_emissionOf_35 ?_
        refine go_iaddN C dX7_emissionOf_36 ?_
        refine go_iload_n C dX7_emissionOf_37 rfl ?_
        refine go_iaddN C dX7_emissionOf_38 ?_
        refine go_ialdN C dX7_emissionOf_39 (by decide) rfl (by decide) (by omega) ?_
        refine go_iret hr dX7_emissionOf_40 rfl ?_
        first | exact ⟨by rw [if_neg hn, Nat.add_assoc]; exact hV.2.2.2.2.1 _ (by omega), rfl⟩ | exact ⟨by rw [if_pos (by omega)]; exact hB.1, rfl⟩
      · have hq := (hV.1 k hk).mp h5
        have hB : σ 0 10 = nI e ∧ qe = q ∧ e < 16 := by
          rcases hV.2.2.2.2.2 with z | z | z
          · omega
          · exact absurd z.1 h12
          · exact z
        refine go_aload_n C dX7_emissionOf_15 rfl ?_
        refine go_getI C gf_X7_84 dX7_emissionOf_16 (by decide) rfl rfl ?_
        refine go_goto C 40 dX7_emissionOf_19 (by decide) ?_
        refine go_iret hr dX7_emissionOf_40 rfl ?_
        first | exact ⟨by rw [if_neg hn, Nat.add_assoc]; exact hV.2.2.2.2.1 _ (by omega), rfl⟩ | exact ⟨by rw [if_pos (by omega)]; exact hB.1, rfl⟩
set_option maxHeartbeats 4000000 in
set_option maxRecDepth 100000 in
theorem k_X7_raise {σ : Mem} {k : Nat} (hk : k < 1152) (x : Int32) : CtV objM NM yX7_raise cX7_raise 3 1 19 [.ref 0, .int (nI k), .int x] σ (fun τ => τ = updR σ 6 (upd (σ 6) k (mx (σ 6 k) x))) := by
  refine ct_ofV rfl ?_ (Nat.le_of_ble_eq_true rfl) (fun X C hr => ?_)
  · intro v hv; simp only [List.mem_cons, List.not_mem_nil, or_false] at hv; rcases hv with rfl | rfl | rfl <;> rfl
  · refine go_aload_n C dX7_raise_0 rfl ?_
    refine go_getR C gf_X7_26 dX7_raise_1 (by decide) rfl rfl ?_
    refine go_iload_n C dX7_raise_4 rfl ?_
    refine go_aload_n C dX7_raise_5 rfl ?_
    refine go_getR C gf_X7_26 dX7_raise_6 (by decide) rfl rfl ?_
    refine go_iload_n C dX7_raise_9 rfl ?_
    refine go_ialdN C dX7_raise_10 (by decide) rfl (by decide) (by omega) ?_
    refine go_iload_n C dX7_raise_11 rfl ?_
    refine go_max C lk_X7_87 dX7_raise_12 (by decide) (Nat.le_of_ble_eq_true rfl) ?_
    refine go_iastN C dX7_raise_15 (by decide) rfl (by decide) (by omega) ?_
    refine go_vret hr dX7_raise_16 ?_
    rfl
theorem sun_dn {l3 : Nat → Nat} : ∀ (m j b : Nat), j + 12 * (m + 1) = b → cY j + (m + 1) = cY b → sunS l3 b ≠ 15 → sunS l3 j = 0
  | 0, j, b, h1, h2, h3 => by
    have := cY_lt b
    rw [sunS_low (by omega), if_neg (fun q => h3 (by rw [← h1]; exact q.2))]
  | m + 1, j, b, h1, h2, h3 => by
    have hb := cY_lt b
    have e : cY (j + 12) = cY j + 1 := by unfold cY at *; omega
    have := sun_dn m (j + 12) b (by omega) (by omega) h3
    rw [sunS_low (by omega), if_neg (fun q => by omega)]
def top (k : Nat) : Nat := k + 12 * (7 - cY k)
theorem top_lt {k : Nat} (h : k < 1152) : top k < 1152 := by unfold top cY; omega
theorem top_y (k : Nat) : cY (top k) = 7 := by unfold top cY; omega
set_option maxHeartbeats 4000000 in
set_option maxRecDepth 100000 in
theorem k_X7_laySun {σ : Mem} {w : Wd} {q qe e : Nat} (hO : OkW w) (hV : View σ w q qe e) (hz : ∀ k, k < 1152 → σ 6 k = nI 0) : CtV objM NM yX7_laySun cX7_laySun 3 3 69 [.ref 0] σ (fun τ => FrM σ τ ∧ ∀ k, k < 1152 → τ 6 k = nI ((sunS (lossN w 3)) k)) := by
  refine ct_ofV rfl ?_ (Nat.le_of_ble_eq_true rfl) (fun X C hr => ?_)
  · intro v hv; simp only [List.mem_cons, List.not_mem_nil, or_false] at hv; rcases hv with rfl <;> rfl
  · have L : ∀ (n : Nat) (i : Nat) (v2 : Option Value) (ρ : Mem), (i + n = 1152) → (∀ k, k < 1152 → ρ 6 k = nI (if top k < i then (sunS (lossN w 3)) k else 0)) → (FrM σ ρ) → Go objM NM X 2 [some (.ref 0), some (.int (nI i)), v2] [] ρ := by
      intro n
      induction n using Nat.strongRecOn with
      | _ n ih =>
        intro i v2 ρ hi hg hF1
        refine go_iload_n C dX7_laySun_2 rfl ?_
        refine go_sipush C (nI 1152) dX7_laySun_3 rfl ?_
        refine go_icmp_geN C 89 dX7_laySun_6 (by decide) (by omega) (by omega) (fun h6 => ?_) (fun h6 => ?_)
        · refine go_vret hr dX7_laySun_89 ?_
          obtain rfl : i = 1152 := by omega
          exact ⟨hF1, fun k hk => by rw [hg k hk, if_pos (top_lt hk)]⟩
        · refine go_iload_n C dX7_laySun_9 rfl ?_
          refine go_S1P C ok_X7_yOf lk_X7_65 dX7_laySun_10 (k_X7_yOf (by omega)) (by decide) (Nat.le_of_ble_eq_true rfl) ?_
          refine go_bipush C (nI 7) dX7_laySun_13 rfl ?_
          have hy8 := cY_lt i
          refine go_icmp_neN C 83 dX7_laySun_15 (by decide) (by omega) (by omega) (fun h15 => ?_) (fun h15 => ?_)
          · refine go_iincN C 1 dX7_laySun_83 rfl rfl (by decide) rfl rfl ?_
            refine go_goto C 2 dX7_laySun_86 (by decide) ?_
            exact ih (n - 1) (by omega) (i + 1) _ ρ (by omega) (fun k hk => by
              rw [hg k hk]
              refine congrArg nI ?_
              have := top_y k
              by_cases t1 : top k < i
              · rw [if_pos t1, if_pos (by omega)]
              · rw [if_neg t1, if_neg (fun z => h15 (by rw [show i = top k by omega]; exact this))]) hF1
          · have hV1 := hF1.V hV
            have hil : i < 1152 := by omega
            have hti : top i = i := by unfold top; omega
            have hl16 := lossN_lt hO (c := 3) (by decide) hil
            have Li : ∀ (nb : Nat) (b : Nat) (ρ2 : Mem), (b < 1152 ∧ top b = i ∧ cY b = nb) → (∀ k, k < 1152 → ρ2 6 k = nI (if top k < i ∨ (top k = i ∧ b ≤ k) then (sunS (lossN w 3)) k else 0)) → (FrM σ ρ2) → Go objM NM X 34 [some (.ref 0), some (.int (nI i)), some (.int (nI b))] [] ρ2 := by
              intro nb
              induction nb using Nat.strongRecOn with
              | _ nb ihb =>
                intro b ρ2 hb hg2 hF2
                obtain ⟨hb1, hb2, hb3⟩ := hb
                have hV2 := hF2.V hV
                have hs15 := sunS_le (l3 := lossN w 3) b
                have hvb : ρ2 6 b = nI ((sunS (lossN w 3)) b) := by rw [hg2 b hb1, if_pos (Or.inr ⟨hb2, Nat.le_refl _⟩)]
                refine go_aload_n C dX7_laySun_34 rfl ?_
                refine go_getR C gf_X7_26 dX7_laySun_35 (by decide) rfl rfl ?_
                refine go_iload_n C dX7_laySun_38 rfl ?_
                refine go_ialdN C dX7_laySun_39 (by decide) rfl (by decide) (by omega) ?_
                refine go_top _ hvb ?_
                refine go_bipush C (nI 15) dX7_laySun_40 rfl ?_
                refine go_icmp_neN C 83 dX7_laySun_42 (by decide) (by omega) (by omega) (fun h42 => ?_) (fun h42 => ?_)
                · have hex : ∀ k, k < 1152 → top k = i → ¬ b ≤ k → 0 = (sunS (lossN w 3)) k := fun k hk t2 t3 => (sun_dn (cY b - cY k - 1) k b (by unfold top cY at *; omega) (by unfold top cY at *; omega) h42).symm
                  refine go_iincN C 1 dX7_laySun_83 rfl rfl (by decide) rfl rfl ?_
                  refine go_goto C 2 dX7_laySun_86 (by decide) ?_
                  exact ih (n - 1) (by omega) (i + 1) _ ρ2 (by omega) (fun k hk => by
                    rw [hg2 k hk]
                    refine congrArg nI ?_
                    by_cases t1 : top k < i
                    · rw [if_pos (Or.inl t1), if_pos (by omega)]
                    · by_cases t2 : top k = i
                      · rw [if_pos (show top k < i + 1 by omega)]
                        by_cases t3 : b ≤ k
                        · rw [if_pos (Or.inr ⟨t2, t3⟩)]
                        · rw [if_neg (by omega)]
                          exact hex k hk t2 t3
                      · rw [if_neg (by omega), if_neg (by omega)]) hF2
                · refine go_iload_n C dX7_laySun_45 rfl ?_
                  refine go_iconst C (nI 2) dX7_laySun_46 rfl ?_
                  refine go_S2P C ok_X7_next lk_X7_100 dX7_laySun_47 (k_X7_next (by omega) (by omega)) (by decide) (Nat.le_of_ble_eq_true rfl) ?_
                  refine go_if_ltO C 83 dX7_laySun_50 (by decide) (fun j hj => by have := nbr_lt hb1 hj; omega) (fun h50 => ?_) (fun h50 => ?_)
                  · have hex : ∀ k, k < 1152 → top k = i → ¬ b ≤ k → 0 = (sunS (lossN w 3)) k := fun k hk t2 t3 => by
                      have hy : cY b = 0 := by
                        simp only [nbr] at h50
                        split at h50
                        · cases h50
                        · omega
                      exfalso; unfold top at *; have := cY_lt k; omega
                    refine go_iincN C 1 dX7_laySun_83 rfl rfl (by decide) rfl rfl ?_
                    refine go_goto C 2 dX7_laySun_86 (by decide) ?_
                    exact ih (n - 1) (by omega) (i + 1) _ ρ2 (by omega) (fun k hk => by
                      rw [hg2 k hk]
                      refine congrArg nI ?_
                      by_cases t1 : top k < i
                      · rw [if_pos (Or.inl t1), if_pos (by omega)]
                      · by_cases t2 : top k = i
                        · rw [if_pos (show top k < i + 1 by omega)]
                          by_cases t3 : b ≤ k
                          · rw [if_pos (Or.inr ⟨t2, t3⟩)]
                          · rw [if_neg (by omega)]
                            exact hex k hk t2 t3
                        · rw [if_neg (by omega), if_neg (by omega)]) hF2
                  · obtain ⟨b2, hb2n⟩ := h50
                    have hbl := nbr_lt hb1 hb2n
                    have hbe : b = b2 + 12 ∧ cY b2 + 1 = cY b := by
                      simp only [nbr] at hb2n
                      split at hb2n
                      · cases hb2n; unfold cY at *; omega
                      · cases hb2n
                    have hlow := sunS_low (l3 := lossN w 3) (n := b2) (by have := cY_lt b; omega)
                    rw [← hbe.1] at hlow
                    refine go_aload_n C dX7_laySun_53 rfl ?_
                    refine go_iload_n C dX7_laySun_54 rfl ?_
                    refine go_iconst C (nI 2) dX7_laySun_55 rfl ?_
                    refine go_S2P C ok_X7_next lk_X7_100 dX7_laySun_56 (k_X7_next hb1 (by decide)) (by decide) (Nat.le_of_ble_eq_true rfl) ?_
                    rw [hb2n]
                    dsimp only [oI]
                    refine go_iconst C (nI 3) dX7_laySun_59 rfl ?_
                    refine go_V2P C ok_X7_lossOf lk_X7_93 dX7_laySun_60 (by decide) rfl rfl rfl (k_X7_lossOf hO hV2 hbl (by decide)) (by decide) (Nat.le_of_ble_eq_true rfl) ?_
                    have hl16 := lossN_lt hO (c := 3) (by decide) hbl
                    refine go_if_neN C 83 dX7_laySun_63 (by decide) (by omega) (fun h63 => ?_) (fun h63 => ?_)
                    · have hex : ∀ k, k < 1152 → top k = i → ¬ b ≤ k → 0 = (sunS (lossN w 3)) k := fun k hk t2 t3 => by
                        have hz : (sunS (lossN w 3)) b2 = 0 := by rw [hlow, if_neg (fun z => h63 z.1)]
                        by_cases e : k = b2
                        · rw [e, hz]
                        · exact (sun_dn (cY b2 - cY k - 1) k b2 (by unfold top cY at *; omega) (by unfold top cY at *; omega) (by rw [hz]; decide)).symm
                      refine go_iincN C 1 dX7_laySun_83 rfl rfl (by decide) rfl rfl ?_
                      refine go_goto C 2 dX7_laySun_86 (by decide) ?_
                      exact ih (n - 1) (by omega) (i + 1) _ ρ2 (by omega) (fun k hk => by
                        rw [hg2 k hk]
                        refine congrArg nI ?_
                        by_cases t1 : top k < i
                        · rw [if_pos (Or.inl t1), if_pos (by omega)]
                        · by_cases t2 : top k = i
                          · rw [if_pos (show top k < i + 1 by omega)]
                            by_cases t3 : b ≤ k
                            · rw [if_pos (Or.inr ⟨t2, t3⟩)]
                            · rw [if_neg (by omega)]
                              exact hex k hk t2 t3
                          · rw [if_neg (by omega), if_neg (by omega)]) hF2
                    · refine go_iload_n C dX7_laySun_66 rfl ?_
                      refine go_iconst C (nI 2) dX7_laySun_67 rfl ?_
                      refine go_S2P C ok_X7_next lk_X7_100 dX7_laySun_68 (k_X7_next hb1 (by decide)) (by decide) (Nat.le_of_ble_eq_true rfl) ?_
                      rw [hb2n]
                      dsimp only [oI]
                      refine go_istore_n C dX7_laySun_71 (by decide) rfl rfl ?_
                      refine go_aload_n C dX7_laySun_72 rfl ?_
                      refine go_getR C gf_X7_26 dX7_laySun_73 (by decide) rfl rfl ?_
                      refine go_iload_n C dX7_laySun_76 rfl ?_
                      refine go_bipush C (nI 15) dX7_laySun_77 rfl ?_
                      refine go_iastN C dX7_laySun_79 (by decide) rfl (by decide) (by omega) ?_
                      refine go_goto C 34 dX7_laySun_80 (by decide) ?_
                      exact ihb (nb - 1) (by omega) b2 _ ⟨hbl, by unfold top cY at *; omega, by omega⟩ (fun k hk => by
                        show upd (ρ2 6) b2 (nI 15) k = _
                        by_cases e : k = b2
                        · subst e
                          rw [pk_us, if_pos (Or.inr ⟨by unfold top cY at *; omega, Nat.le_refl _⟩), hlow, if_pos ⟨h63, h42⟩]
                        · rw [pk_un e, hg2 k hk]
                          refine congrArg nI ?_
                          by_cases t1 : top k < i ∨ (top k = i ∧ b ≤ k)
                          · rw [if_pos t1, if_pos (by omega)]
                          · rw [if_neg t1, if_neg (fun z => t1 (by
                              rcases z with z | ⟨z1, z2⟩
                              · exact Or.inl z
                              · refine Or.inr ⟨z1, ?_⟩
                                unfold top cY at *
                                omega))]) (hF2.trans (fun q z => updR_n z))
            refine go_aload_n C dX7_laySun_18 rfl ?_
            refine go_iload_n C dX7_laySun_19 rfl ?_
            refine go_bipush C (nI 15) dX7_laySun_20 rfl ?_
            refine go_aload_n C dX7_laySun_22 rfl ?_
            refine go_iload_n C dX7_laySun_23 rfl ?_
            refine go_iconst C (nI 3) dX7_laySun_24 rfl ?_
            refine go_V2P C ok_X7_lossOf lk_X7_93 dX7_laySun_25 (by decide) rfl rfl rfl (k_X7_lossOf hO hV1 hil (by decide)) (by decide) (Nat.le_of_ble_eq_true rfl) ?_
            refine go_isubN C dX7_laySun_28 (by omega) ?_
            refine go_V2V C ok_X7_raise lk_X7_96 dX7_laySun_29 (by decide) rfl rfl rfl (k_X7_raise hil _) (by decide) (Nat.le_of_ble_eq_true rfl) (fun τ hp => ?_)
            refine go_iload_n C dX7_laySun_32 rfl ?_
            refine go_istore_n C dX7_laySun_33 (by decide) rfl rfl ?_
            exact Li 7 i τ ⟨hil, hti, h15⟩ (fun k hk => by
              rw [hp, updR_s]
              by_cases e : k = i
              · subst e
                rw [pk_us, hg k hk, if_neg (by omega), mx_nI (by decide) (by omega), if_pos (Or.inr ⟨hti, Nat.le_refl _⟩), sunS_top h15, Nat.zero_max]
              · rw [pk_un e, hg k hk]
                refine congrArg nI ?_
                by_cases t1 : top k < i
                · rw [if_pos t1, if_pos (Or.inl t1)]
                · rw [if_neg t1, if_neg (by unfold top at *; omega)]) (by rw [hp]; exact hF1.trans (fun q z => updR_n z))
    refine go_iconst C (nI 0) dX7_laySun_0 rfl ?_
    refine go_istore_n C dX7_laySun_1 (by decide) rfl rfl ?_
    exact L 1152 0 _ σ (by omega) (fun k hk => by rw [hz k hk, if_neg (Nat.not_lt_zero _)]) FrM.refl
end
section
def LayP (σ : Mem) (w : Wd) (c qe e : Nat) : Mem → Prop := fun τ => FrM σ τ ∧ IsLit (srcQ w c qe e) (lossN w c) (litQ w c qe e) ∧ ∀ j, j < 1152 → τ 6 j = nI (litQ w c qe e j)
set_option maxHeartbeats 4000000 in
set_option maxRecDepth 100000 in
theorem k_X7_lay {σ : Mem} {w : Wd} {q qe e : Nat} (hO : OkW w) (hV : View σ w q qe e) (he : e < 16) {c : Nat} (hc : c < 4) : CtV objM NM yX7_lay cX7_lay 6 4 91 [.ref 0, .int (nI c)] σ (LayP σ w c qe e) := by
  refine ct_ofV rfl ?_ (Nat.le_of_ble_eq_true rfl) (fun X C hr => ?_)
  · intro v hv; simp only [List.mem_cons, List.not_mem_nil, or_false] at hv; rcases hv with rfl | rfl <;> rfl
  · have L : ∀ (n : Nat) (lv : Nat) (v3 : Option Value) (v4 : Option Value) (v5 : Option Value) (ρ : Mem) (f1 : Nat → Nat), (lv = n + 1 ∧ lv ≤ 15) → (PI (srcQ w c qe e) (lossN w c) lv f1 (fun _ _ => False)) → (∀ j, j < 1152 → ρ 6 j = nI (f1 j)) → (FrM σ ρ) → Go objM NM X 48 [some (.ref 0), some (.int (nI c)), some (.int (nI lv)), v3, v4, v5] [] ρ := by
      intro n
      induction n using Nat.strongRecOn with
      | _ n ih =>
        intro lv v3 v4 v5 ρ f1 hlv hP1 hg1 hF1
        refine go_iload_n C dX7_lay_48 rfl ?_
        refine go_iconst C (nI 1) dX7_lay_49 rfl ?_
        refine go_icmp_leN C 130 dX7_lay_50 (by decide) (by omega) (by omega) (fun h50 => ?_) (fun h50 => ?_)
        · refine go_vret hr dX7_lay_130 ?_
          have e1 : lv = 1 := by omega
          have hL := PI_1 (e1 ▸ hP1)
          exact ⟨hF1, lfp_is hL, fun j hj => by rw [hg1 j hj]; exact congrArg nI (lfp_eq hL hj)⟩
        · have Lk : ∀ (nk : Nat) (k : Nat) (v4 : Option Value) (v5 : Option Value) (ρ2 : Mem) (f2 : Nat → Nat), (k + nk = 1152) → (PI (srcQ w c qe e) (lossN w c) lv f2 (fun x y => x < k ∧ ∃ d, nbr x d = some y)) → (∀ j, j < 1152 → ρ2 6 j = nI (f2 j)) → (FrM σ ρ2) → Go objM NM X 55 [some (.ref 0), some (.int (nI c)), some (.int (nI lv)), some (.int (nI k)), v4, v5] [] ρ2 := by
            intro nk
            induction nk using Nat.strongRecOn with
            | _ nk ihk =>
              intro k v4 v5 ρ2 f2 hk hP2 hg2 hF2
              refine go_iload_n C dX7_lay_55 rfl ?_
              refine go_sipush C (nI 1152) dX7_lay_56 rfl ?_
              refine go_icmp_geN C 124 dX7_lay_59 (by decide) (by omega) (by omega) (fun h59 => ?_) (fun h59 => ?_)
              · skip
                refine go_iinc C (nI (lv - 1)) dX7_lay_124 rfl (dec_n (by omega)) (by decide) rfl rfl ?_
                refine go_goto C 48 dX7_lay_127 (by decide) ?_
                have hP2b : PI (srcQ w c qe e) (lossN w c) (lv - 1 + 1) f2 (fun x y => x < k ∧ ∃ d, nbr x d = some y) := by rw [show lv - 1 + 1 = lv by omega]; exact hP2
                exact ih (n - 1) (by omega) (lv - 1) _ _ _ ρ2 f2 (by omega) (PI_lv hP2b (fun x y d hx hfx hd => ⟨by omega, d, hd⟩)) hg2 hF2
              · have hkl : k < 1152 := by omega
                have Ld : ∀ (nd : Nat) (d : Nat) (v5 : Option Value) (ρ3 : Mem) (f3 : Nat → Nat), (d + nd = 6) → (PI (srcQ w c qe e) (lossN w c) lv f3 (fun x y => (x < k ∧ ∃ d', nbr x d' = some y) ∨ (x = k ∧ ∃ d', d' < d ∧ nbr x d' = some y))) → (∀ j, j < 1152 → ρ3 6 j = nI (f3 j)) → (FrM σ ρ3) → Go objM NM X 65 [some (.ref 0), some (.int (nI c)), some (.int (nI lv)), some (.int (nI k)), some (.int (nI d)), v5] [] ρ3 := by
                  intro nd
                  induction nd using Nat.strongRecOn with
                  | _ nd ihd =>
                    intro d v5 ρ3 f3 hd hP3 hg3 hF3
                    have hf15 := (hP3.1 k hkl).2
                    refine go_iload C dX7_lay_65 rfl ?_
                    refine go_bipush C (nI 6) dX7_lay_67 rfl ?_
                    refine go_icmp_geN C 118 dX7_lay_69 (by decide) (by omega) (by omega) (fun h69 => ?_) (fun h69 => ?_)
                    · skip
                      refine go_iincN C 1 dX7_lay_118 rfl rfl (by decide) rfl rfl ?_
                      refine go_goto C 55 dX7_lay_121 (by decide) ?_
                      exact ihk (nk - 1) (by omega) (k + 1) _ _ ρ3 f3 (by omega) (PI_mono hP3 (fun x y q => by
                        obtain ⟨q1, d', q2⟩ := q
                        rcases Nat.lt_or_ge x k with z | z
                        · exact Or.inl ⟨z, d', q2⟩
                        · exact Or.inr ⟨by omega, d', by have := nbr_d q2; omega, q2⟩)) hg3 hF3
                    · refine go_aload_n C dX7_lay_72 rfl ?_
                      refine go_getR C gf_X7_26 dX7_lay_73 (by decide) rfl rfl ?_
                      refine go_iload_n C dX7_lay_76 rfl ?_
                      refine go_ialdN C dX7_lay_77 (by decide) rfl (by decide) (by omega) ?_
                      refine go_top _ (hg3 k hkl) ?_
                      refine go_iload_n C dX7_lay_78 rfl ?_
                      refine go_icmp_neN C 118 dX7_lay_79 (by decide) (by omega) (by omega) (fun h79 => ?_) (fun h79 => ?_)
                      · skip
                        refine go_iincN C 1 dX7_lay_118 rfl rfl (by decide) rfl rfl ?_
                        refine go_goto C 55 dX7_lay_121 (by decide) ?_
                        exact ihk (nk - 1) (by omega) (k + 1) _ _ ρ3 f3 (by omega) ⟨hP3.1, hP3.2.1, hP3.2.2.1, fun x y q hx => by
                          obtain ⟨q1, d', q2⟩ := q
                          rcases Nat.lt_or_ge x k with z | z
                          · exact hP3.2.2.2 x y (Or.inl ⟨z, d', q2⟩) hx
                          · exact absurd (show f3 k = lv by rw [← hx]; congr 1; omega) h79⟩ hg3 hF3
                      · refine go_iload_n C dX7_lay_82 rfl ?_
                        refine go_iload C dX7_lay_83 rfl ?_
                        refine go_S2P C ok_X7_next lk_X7_100 dX7_lay_85 (k_X7_next (by omega) (by omega)) (by decide) (Nat.le_of_ble_eq_true rfl) ?_
                        refine go_istore C dX7_lay_88 (by decide) rfl rfl ?_
                        refine go_iload C dX7_lay_90 rfl ?_
                        refine go_if_ltO C 112 dX7_lay_92 (by decide) (fun j hj => by have := nbr_lt hkl hj; omega) (fun h92 => ?_) (fun h92 => ?_)
                        · skip
                          refine go_iincN C 1 dX7_lay_112 rfl rfl (by decide) rfl rfl ?_
                          refine go_goto C 65 dX7_lay_115 (by decide) ?_
                          exact ihd (nd - 1) (by omega) (d + 1) _ ρ3 f3 (by omega) (PI_mono hP3 (fun x y q => q.elim Or.inl (fun q => by
                            obtain ⟨q1, d', q2, q3⟩ := q
                            subst q1
                            rcases Nat.lt_or_ge d' d with q4 | q4
                            · exact Or.inr ⟨rfl, d', q4, q3⟩
                            · obtain rfl : d' = d := by omega
                              rw [h92] at q3; cases q3))) hg3 hF3
                        · obtain ⟨b, hb⟩ := h92
                          rw [hb]
                          dsimp only [oI]
                          have hbl := nbr_lt hkl hb
                          have hl16 := lossN_lt hO hc hbl
                          have hb15 := (hP3.1 b hbl).2
                          refine go_aload_n C dX7_lay_95 rfl ?_
                          refine go_iload C dX7_lay_96 rfl ?_
                          refine go_iload_n C dX7_lay_98 rfl ?_
                          refine go_iconst C (nI 1) dX7_lay_99 rfl ?_
                          refine go_isubN C dX7_lay_100 (by omega) ?_
                          refine go_aload_n C dX7_lay_101 rfl ?_
                          refine go_iload C dX7_lay_102 rfl ?_
                          refine go_iload_n C dX7_lay_104 rfl ?_
                          refine go_V2P C ok_X7_lossOf lk_X7_93 dX7_lay_105 (by decide) rfl rfl rfl (k_X7_lossOf hO (hF3.V hV) hbl hc) (by decide) (Nat.le_of_ble_eq_true rfl) ?_
                          refine go_isub C dX7_lay_108 ?_
                          refine go_V2V C ok_X7_raise lk_X7_96 dX7_lay_109 (by decide) rfl rfl rfl (k_X7_raise hbl _) (by decide) (Nat.le_of_ble_eq_true rfl) (fun τ hp => ?_)
                          refine go_iincN C 1 dX7_lay_112 rfl rfl (by decide) rfl rfl ?_
                          refine go_goto C 65 dX7_lay_115 (by decide) ?_
                          have hp2 := PI_rse hP3 (by omega) hkl h79 hb
                          exact ihd (nd - 1) (by omega) (d + 1) _ τ (rse f3 (lossN w c) lv b) (by omega) (PI_mono hp2 (fun x y q => q.elim (fun q => Or.inl (Or.inl q)) (fun q => by
                            obtain ⟨q1, d', q2, q3⟩ := q
                            subst q1
                            rcases Nat.lt_or_ge d' d with q4 | q4
                            · exact Or.inl (Or.inr ⟨rfl, d', q4, q3⟩)
                            · obtain rfl : d' = d := by omega
                              rw [hb] at q3; cases q3; exact Or.inr ⟨rfl, rfl⟩))) (fun j hj => by
                            rw [hp, updR_s]
                            unfold rse
                            by_cases z : j = b
                            · subst z; rw [pk_us, un_s, hg3 j hj, mx_sub (by omega) (by omega) (by omega)]
                            · rw [pk_un z, un_n z]; exact hg3 j hj) (by rw [hp]; exact hF3.trans (fun q z => updR_n z))
                refine go_iconst C (nI 0) dX7_lay_62 rfl ?_
                refine go_istore C dX7_lay_63 (by decide) rfl rfl ?_
                exact Ld 6 0 _ ρ2 f2 (by omega) (PI_mono hP2 (fun x y q => q.elim id (fun q => absurd q.2.choose_spec.1 (Nat.not_lt_zero _)))) hg2 hF2
          refine go_iconst C (nI 0) dX7_lay_53 rfl ?_
          refine go_istore_n C dX7_lay_54 (by decide) rfl rfl ?_
          exact Lk 1152 0 _ _ ρ f1 (by omega) (PI_mono hP1 (fun x y q => absurd q.1 (Nat.not_lt_zero _))) hg1 hF1
    have J : ∀ (τ : Mem) (v2 v3 v4 v5 : Option Value), (∀ j, j < 1152 → τ 6 j = nI ((srcQ w c qe e) j)) → FrM σ τ → Go objM NM X 45 [some (.ref 0), some (.int (nI c)), v2, v3, v4, v5] [] τ := by
      intro τ v2 v3 v4 v5 hg hF1
      refine go_bipush C (nI 15) dX7_lay_45 rfl ?_
      refine go_istore_n C dX7_lay_47 (by decide) rfl rfl ?_
      exact L 14 15 _ _ _ τ (srcQ w c qe e) ⟨rfl, by decide⟩ (PI_0 (srcQ_le hO hc he) (fun _ _ => rfl)) hg hF1
    have A : ∀ (n : Nat) (i : Nat) (ρ : Mem), (i + n = 1152) → (∀ j, j < i → ρ 6 j = nI (if c < 3 then (if j = qe then e else emN w c j) else 0)) → (FrM σ ρ) → Go objM NM X 2 [some (.ref 0), some (.int (nI c)), some (.int (nI i)), none, none, none] [] ρ := by
      intro n
      induction n using Nat.strongRecOn with
      | _ n ih =>
        intro i ρ hi hg hF1
        have hV1 := hF1.V hV
        refine go_iload_n C dX7_lay_2 rfl ?_
        refine go_sipush C (nI 1152) dX7_lay_3 rfl ?_
        refine go_icmp_geN C 36 dX7_lay_6 (by decide) (by omega) (by omega) (fun h6 => ?_) (fun h6 => ?_)
        · obtain rfl : i = 1152 := by omega
          refine go_iload_n C dX7_lay_36 rfl ?_
          refine go_iconst C (nI 3) dX7_lay_37 rfl ?_
          refine go_icmp_neN C 45 dX7_lay_38 (by decide) (by omega) (by omega) (fun h38 => ?_) (fun h38 => ?_)
          · skip
            first | exact J τ _ _ _ _ (fun j hj => by rw [hp.2 j hj]; unfold srcQ; rw [if_pos rfl]) (hF1.trans hp.1) | exact J ρ _ _ _ _ (fun j hj => by rw [hg j hj]; unfold srcQ; rw [if_pos (by omega), if_neg h38]) hF1
          · subst h38
            refine go_aload_n C dX7_lay_41 rfl ?_
            refine go_V0V C ok_X7_laySun lk_X7_106 dX7_lay_42 (by decide) rfl rfl rfl (k_X7_laySun hO hV1 (fun k hk => by rw [hg k hk]; rfl)) (by decide) (Nat.le_of_ble_eq_true rfl) (fun τ hp => ?_)
            first | exact J τ _ _ _ _ (fun j hj => by rw [hp.2 j hj]; unfold srcQ; rw [if_pos rfl]) (hF1.trans hp.1) | exact J ρ _ _ _ _ (fun j hj => by rw [hg j hj]; unfold srcQ; rw [if_pos (by omega), if_neg h38]) hF1
        · refine go_aload_n C dX7_lay_9 rfl ?_
          refine go_getR C gf_X7_26 dX7_lay_10 (by decide) rfl rfl ?_
          refine go_iload_n C dX7_lay_13 rfl ?_
          refine go_iload_n C dX7_lay_14 rfl ?_
          refine go_iconst C (nI 3) dX7_lay_15 rfl ?_
          refine go_icmp_geN C 28 dX7_lay_16 (by decide) (by omega) (by omega) (fun h16 => ?_) (fun h16 => ?_)
          · skip
            refine go_iconst C (nI 0) dX7_lay_28 rfl ?_
            refine go_iastN C dX7_lay_29 (by decide) rfl (by decide) (by omega) ?_
            refine go_iincN C 1 dX7_lay_30 rfl rfl (by decide) rfl rfl ?_
            refine go_goto C 2 dX7_lay_33 (by decide) ?_
            exact ih (n - 1) (by omega) (i + 1) _ (by omega) (fun j hj => by
              show upd (ρ 6) i _ j = _
              by_cases z : j = i
              · subst z; rw [pk_us]; first | rw [if_pos (show c < 3 by omega)] | rw [if_neg (show ¬ c < 3 by omega)]
              · rw [pk_un z]; exact hg j (by omega)) (hF1.trans (fun q z => updR_n z))
          · refine go_aload_n C dX7_lay_19 rfl ?_
            refine go_iload_n C dX7_lay_20 rfl ?_
            refine go_iload_n C dX7_lay_21 rfl ?_
            refine go_V2P C ok_X7_emissionOf lk_X7_103 dX7_lay_22 (by decide) rfl rfl rfl (k_X7_emissionOf hO hV1 (by omega) hc) (by decide) (Nat.le_of_ble_eq_true rfl) ?_
            refine go_goto C 29 dX7_lay_25 (by decide) ?_
            refine go_iastN C dX7_lay_29 (by decide) rfl (by decide) (by omega) ?_
            refine go_iincN C 1 dX7_lay_30 rfl rfl (by decide) rfl rfl ?_
            refine go_goto C 2 dX7_lay_33 (by decide) ?_
            exact ih (n - 1) (by omega) (i + 1) _ (by omega) (fun j hj => by
              show upd (ρ 6) i _ j = _
              by_cases z : j = i
              · subst z; rw [pk_us]; first | rw [if_pos (show c < 3 by omega)] | rw [if_neg (show ¬ c < 3 by omega)]
              · rw [pk_un z]; exact hg j (by omega)) (hF1.trans (fun q z => updR_n z))
    refine go_iconst C (nI 0) dX7_lay_0 rfl ?_
    refine go_istore_n C dX7_lay_1 (by decide) rfl rfl ?_
    exact A 1152 0 σ (by omega) (fun j h => absurd h (Nat.not_lt_zero _)) FrM.refl
end
