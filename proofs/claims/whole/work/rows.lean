section
-- ===== PART A: goes FIRST, ahead of the names: the tables' words, and 'selects' of the private methods out of them =====
/-- a private method of a class that the tables say can be made, by its rows of tables_1 -/
def lw_okq (q : MethodName × Nat) : Prop := (q.1.cls ≠ "java/lang/invoke/MethodHandle" ∧ q.1.cls ≠ "java/lang/invoke/VarHandle") ∧ Cond.instantiable q.1.cls q.2 ∈ tables_1 ∧ Cond.privateMethod q.1 ∈ tables_1 ∧ Cond.instanceMethod q.1 ∈ tables_1
theorem lw_p0 : lw_okq (⟨"TransferRings$Text", "skipBlanks", "()V"⟩, 6) := ⟨⟨by decide +kernel, by decide +kernel⟩, List.mem_of_getElem? (i := 19) (by decide +kernel), List.mem_of_getElem? (i := 167) (by decide +kernel), List.mem_of_getElem? (i := 168) (by decide +kernel)⟩
theorem lw_p1 : lw_okq (⟨"TransferRings$Text", "readItem", "()Z"⟩, 6) := ⟨⟨by decide +kernel, by decide +kernel⟩, List.mem_of_getElem? (i := 19) (by decide +kernel), List.mem_of_getElem? (i := 171) (by decide +kernel), List.mem_of_getElem? (i := 172) (by decide +kernel)⟩
theorem lw_p2 : lw_okq (⟨"TransferRings$Text", "readForm", "(I[I[I)Z"⟩, 6) := ⟨⟨by decide +kernel, by decide +kernel⟩, List.mem_of_getElem? (i := 19) (by decide +kernel), List.mem_of_getElem? (i := 179) (by decide +kernel), List.mem_of_getElem? (i := 180) (by decide +kernel)⟩
theorem lw_p3 : lw_okq (⟨"TransferRings$Text", "readNumber", "(III)Z"⟩, 6) := ⟨⟨by decide +kernel, by decide +kernel⟩, List.mem_of_getElem? (i := 19) (by decide +kernel), List.mem_of_getElem? (i := 183) (by decide +kernel), List.mem_of_getElem? (i := 184) (by decide +kernel)⟩
theorem lw_p4 : lw_okq (⟨"TransferRings$Engine", "post", "(ILTransferRings$Text;I)Z"⟩, 7) := ⟨⟨by decide +kernel, by decide +kernel⟩, List.mem_of_getElem? (i := 47) (by decide +kernel), List.mem_of_getElem? (i := 218) (by decide +kernel), List.mem_of_getElem? (i := 219) (by decide +kernel)⟩
theorem lw_p5 : lw_okq (⟨"TransferRings$Engine", "writeBack", "(I)V"⟩, 7) := ⟨⟨by decide +kernel, by decide +kernel⟩, List.mem_of_getElem? (i := 47) (by decide +kernel), List.mem_of_getElem? (i := 268) (by decide +kernel), List.mem_of_getElem? (i := 269) (by decide +kernel)⟩
theorem lw_p6 : lw_okq (⟨"TransferRings$Engine", "nextToGrant", "()I"⟩, 7) := ⟨⟨by decide +kernel, by decide +kernel⟩, List.mem_of_getElem? (i := 47) (by decide +kernel), List.mem_of_getElem? (i := 276) (by decide +kernel), List.mem_of_getElem? (i := 277) (by decide +kernel)⟩
theorem lw_p7 : lw_okq (⟨"TransferRings$Engine", "grant", "(IZ)V"⟩, 7) := ⟨⟨by decide +kernel, by decide +kernel⟩, List.mem_of_getElem? (i := 47) (by decide +kernel), List.mem_of_getElem? (i := 292) (by decide +kernel), List.mem_of_getElem? (i := 293) (by decide +kernel)⟩
theorem lw_p8 : lw_okq (⟨"TransferRings$Engine", "carry", "(III)V"⟩, 7) := ⟨⟨by decide +kernel, by decide +kernel⟩, List.mem_of_getElem? (i := 47) (by decide +kernel), List.mem_of_getElem? (i := 297) (by decide +kernel), List.mem_of_getElem? (i := 298) (by decide +kernel)⟩
theorem lw_p9 : lw_okq (⟨"TransferRings$Engine", "letWait", "(II)V"⟩, 7) := ⟨⟨by decide +kernel, by decide +kernel⟩, List.mem_of_getElem? (i := 47) (by decide +kernel), List.mem_of_getElem? (i := 308) (by decide +kernel), List.mem_of_getElem? (i := 309) (by decide +kernel)⟩
theorem lw_p10 : lw_okq (⟨"TransferRings$Engine", "writeBackAllOf", "(I)V"⟩, 7) := ⟨⟨by decide +kernel, by decide +kernel⟩, List.mem_of_getElem? (i := 47) (by decide +kernel), List.mem_of_getElem? (i := 324) (by decide +kernel), List.mem_of_getElem? (i := 325) (by decide +kernel)⟩
theorem lw_p11 : lw_okq (⟨"TransferRings", "presentResidue", "(I)I"⟩, 7) := ⟨⟨by decide +kernel, by decide +kernel⟩, List.mem_of_getElem? (i := 11) (by decide +kernel), List.mem_of_getElem? (i := 354) (by decide +kernel), List.mem_of_getElem? (i := 355) (by decide +kernel)⟩
theorem lw_p12 : lw_okq (⟨"TransferRings", "ticksUntilOver", "(II)I"⟩, 7) := ⟨⟨by decide +kernel, by decide +kernel⟩, List.mem_of_getElem? (i := 11) (by decide +kernel), List.mem_of_getElem? (i := 400) (by decide +kernel), List.mem_of_getElem? (i := 401) (by decide +kernel)⟩
theorem lw_p13 : lw_okq (⟨"TransferRings$Engine", "uncarriedBoundFor", "(II)I"⟩, 7) := ⟨⟨by decide +kernel, by decide +kernel⟩, List.mem_of_getElem? (i := 47) (by decide +kernel), List.mem_of_getElem? (i := 416) (by decide +kernel), List.mem_of_getElem? (i := 417) (by decide +kernel)⟩
theorem lw_p14 : lw_okq (⟨"TransferRings$Sightings", "lastTick", "()I"⟩, 3) := ⟨⟨by decide +kernel, by decide +kernel⟩, List.mem_of_getElem? (i := 100) (by decide +kernel), List.mem_of_getElem? (i := 452) (by decide +kernel), List.mem_of_getElem? (i := 453) (by decide +kernel)⟩
theorem lw_p15 : lw_okq (⟨"TransferRings$Sightings", "allowsInTick", "(II)Z"⟩, 3) := ⟨⟨by decide +kernel, by decide +kernel⟩, List.mem_of_getElem? (i := 100) (by decide +kernel), List.mem_of_getElem? (i := 460) (by decide +kernel), List.mem_of_getElem? (i := 461) (by decide +kernel)⟩
def lw_privs_1 : List (MethodName × Nat) := [(⟨"TransferRings$Text", "skipBlanks", "()V"⟩, 6), (⟨"TransferRings$Text", "readItem", "()Z"⟩, 6), (⟨"TransferRings$Text", "readForm", "(I[I[I)Z"⟩, 6), (⟨"TransferRings$Text", "readNumber", "(III)Z"⟩, 6), (⟨"TransferRings$Engine", "post", "(ILTransferRings$Text;I)Z"⟩, 7), (⟨"TransferRings$Engine", "writeBack", "(I)V"⟩, 7), (⟨"TransferRings$Engine", "nextToGrant", "()I"⟩, 7), (⟨"TransferRings$Engine", "grant", "(IZ)V"⟩, 7), (⟨"TransferRings$Engine", "carry", "(III)V"⟩, 7), (⟨"TransferRings$Engine", "letWait", "(II)V"⟩, 7), (⟨"TransferRings$Engine", "writeBackAllOf", "(I)V"⟩, 7), (⟨"TransferRings", "presentResidue", "(I)I"⟩, 7), (⟨"TransferRings", "ticksUntilOver", "(II)I"⟩, 7), (⟨"TransferRings$Engine", "uncarriedBoundFor", "(II)I"⟩, 7), (⟨"TransferRings$Sightings", "lastTick", "()I"⟩, 3), (⟨"TransferRings$Sightings", "allowsInTick", "(II)Z"⟩, 3)]
theorem lw_r1 : ∀ q ∈ lw_privs_1, lw_okq q := List.forall_mem_cons.mpr ⟨lw_p0, List.forall_mem_cons.mpr ⟨lw_p1, List.forall_mem_cons.mpr ⟨lw_p2, List.forall_mem_cons.mpr ⟨lw_p3, List.forall_mem_cons.mpr ⟨lw_p4, List.forall_mem_cons.mpr ⟨lw_p5, List.forall_mem_cons.mpr ⟨lw_p6, List.forall_mem_cons.mpr ⟨lw_p7, List.forall_mem_cons.mpr ⟨lw_p8, List.forall_mem_cons.mpr ⟨lw_p9, List.forall_mem_cons.mpr ⟨lw_p10, List.forall_mem_cons.mpr ⟨lw_p11, List.forall_mem_cons.mpr ⟨lw_p12, List.forall_mem_cons.mpr ⟨lw_p13, List.forall_mem_cons.mpr ⟨lw_p14, List.forall_mem_cons.mpr ⟨lw_p15, fun _ h => absurd h List.not_mem_nil⟩⟩⟩⟩⟩⟩⟩⟩⟩⟩⟩⟩⟩⟩⟩⟩
theorem lw_p16 : lw_okq (⟨"TransferRingsModel", "goesThrough", "(Z)Z"⟩, 17) := ⟨⟨by decide +kernel, by decide +kernel⟩, List.mem_of_getElem? (i := 485) (by decide +kernel), List.mem_of_getElem? (i := 558) (by decide +kernel), List.mem_of_getElem? (i := 559) (by decide +kernel)⟩
theorem lw_p17 : lw_okq (⟨"TransferRingsModel", "takes", "()V"⟩, 17) := ⟨⟨by decide +kernel, by decide +kernel⟩, List.mem_of_getElem? (i := 485) (by decide +kernel), List.mem_of_getElem? (i := 562) (by decide +kernel), List.mem_of_getElem? (i := 563) (by decide +kernel)⟩
theorem lw_p18 : lw_okq (⟨"TransferRingsModel", "isFigure", "(I)Z"⟩, 17) := ⟨⟨by decide +kernel, by decide +kernel⟩, List.mem_of_getElem? (i := 485) (by decide +kernel), List.mem_of_getElem? (i := 566) (by decide +kernel), List.mem_of_getElem? (i := 567) (by decide +kernel)⟩
theorem lw_p19 : lw_okq (⟨"TransferRingsModel", "takesNumber", "()V"⟩, 17) := ⟨⟨by decide +kernel, by decide +kernel⟩, List.mem_of_getElem? (i := 485) (by decide +kernel), List.mem_of_getElem? (i := 570) (by decide +kernel), List.mem_of_getElem? (i := 571) (by decide +kernel)⟩
theorem lw_p20 : lw_okq (⟨"TransferRingsModel", "readsItem", "(I)Z"⟩, 17) := ⟨⟨by decide +kernel, by decide +kernel⟩, List.mem_of_getElem? (i := 485) (by decide +kernel), List.mem_of_getElem? (i := 574) (by decide +kernel), List.mem_of_getElem? (i := 575) (by decide +kernel)⟩
theorem lw_p21 : lw_okq (⟨"TransferRingsModel", "readsLetter", "()Z"⟩, 17) := ⟨⟨by decide +kernel, by decide +kernel⟩, List.mem_of_getElem? (i := 485) (by decide +kernel), List.mem_of_getElem? (i := 578) (by decide +kernel), List.mem_of_getElem? (i := 579) (by decide +kernel)⟩
theorem lw_p22 : lw_okq (⟨"TransferRingsModel", "reads", "(III)Z"⟩, 17) := ⟨⟨by decide +kernel, by decide +kernel⟩, List.mem_of_getElem? (i := 485) (by decide +kernel), List.mem_of_getElem? (i := 582) (by decide +kernel), List.mem_of_getElem? (i := 583) (by decide +kernel)⟩
theorem lw_p23 : lw_okq (⟨"TransferRingsModel", "doesItem", "(I)Z"⟩, 17) := ⟨⟨by decide +kernel, by decide +kernel⟩, List.mem_of_getElem? (i := 485) (by decide +kernel), List.mem_of_getElem? (i := 586) (by decide +kernel), List.mem_of_getElem? (i := 587) (by decide +kernel)⟩
theorem lw_p24 : lw_okq (⟨"TransferRingsModel", "comes", "()Z"⟩, 17) := ⟨⟨by decide +kernel, by decide +kernel⟩, List.mem_of_getElem? (i := 485) (by decide +kernel), List.mem_of_getElem? (i := 590) (by decide +kernel), List.mem_of_getElem? (i := 591) (by decide +kernel)⟩
theorem lw_p25 : lw_okq (⟨"TransferRingsModel", "isEngines", "(I)Z"⟩, 17) := ⟨⟨by decide +kernel, by decide +kernel⟩, List.mem_of_getElem? (i := 485) (by decide +kernel), List.mem_of_getElem? (i := 600) (by decide +kernel), List.mem_of_getElem? (i := 601) (by decide +kernel)⟩
theorem lw_p26 : lw_okq (⟨"TransferRingsModel", "keepsSpare", "()V"⟩, 17) := ⟨⟨by decide +kernel, by decide +kernel⟩, List.mem_of_getElem? (i := 485) (by decide +kernel), List.mem_of_getElem? (i := 604) (by decide +kernel), List.mem_of_getElem? (i := 605) (by decide +kernel)⟩
theorem lw_p27 : lw_okq (⟨"TransferRingsModel", "takesBack", "()V"⟩, 17) := ⟨⟨by decide +kernel, by decide +kernel⟩, List.mem_of_getElem? (i := 485) (by decide +kernel), List.mem_of_getElem? (i := 608) (by decide +kernel), List.mem_of_getElem? (i := 609) (by decide +kernel)⟩
theorem lw_p28 : lw_okq (⟨"TransferRingsModel", "remembers", "()V"⟩, 17) := ⟨⟨by decide +kernel, by decide +kernel⟩, List.mem_of_getElem? (i := 485) (by decide +kernel), List.mem_of_getElem? (i := 612) (by decide +kernel), List.mem_of_getElem? (i := 613) (by decide +kernel)⟩
theorem lw_p29 : lw_okq (⟨"TransferRingsModel", "ticksOnce", "()I"⟩, 17) := ⟨⟨by decide +kernel, by decide +kernel⟩, List.mem_of_getElem? (i := 485) (by decide +kernel), List.mem_of_getElem? (i := 620) (by decide +kernel), List.mem_of_getElem? (i := 621) (by decide +kernel)⟩
theorem lw_p30 : lw_okq (⟨"TransferRingsModel", "writes", "(I)V"⟩, 17) := ⟨⟨by decide +kernel, by decide +kernel⟩, List.mem_of_getElem? (i := 485) (by decide +kernel), List.mem_of_getElem? (i := 624) (by decide +kernel), List.mem_of_getElem? (i := 625) (by decide +kernel)⟩
theorem lw_p31 : lw_okq (⟨"TransferRingsModel", "isReady", "(I)Z"⟩, 17) := ⟨⟨by decide +kernel, by decide +kernel⟩, List.mem_of_getElem? (i := 485) (by decide +kernel), List.mem_of_getElem? (i := 628) (by decide +kernel), List.mem_of_getElem? (i := 629) (by decide +kernel)⟩
def lw_privs_2 : List (MethodName × Nat) := [(⟨"TransferRingsModel", "goesThrough", "(Z)Z"⟩, 17), (⟨"TransferRingsModel", "takes", "()V"⟩, 17), (⟨"TransferRingsModel", "isFigure", "(I)Z"⟩, 17), (⟨"TransferRingsModel", "takesNumber", "()V"⟩, 17), (⟨"TransferRingsModel", "readsItem", "(I)Z"⟩, 17), (⟨"TransferRingsModel", "readsLetter", "()Z"⟩, 17), (⟨"TransferRingsModel", "reads", "(III)Z"⟩, 17), (⟨"TransferRingsModel", "doesItem", "(I)Z"⟩, 17), (⟨"TransferRingsModel", "comes", "()Z"⟩, 17), (⟨"TransferRingsModel", "isEngines", "(I)Z"⟩, 17), (⟨"TransferRingsModel", "keepsSpare", "()V"⟩, 17), (⟨"TransferRingsModel", "takesBack", "()V"⟩, 17), (⟨"TransferRingsModel", "remembers", "()V"⟩, 17), (⟨"TransferRingsModel", "ticksOnce", "()I"⟩, 17), (⟨"TransferRingsModel", "writes", "(I)V"⟩, 17), (⟨"TransferRingsModel", "isReady", "(I)Z"⟩, 17)]
theorem lw_r2 : ∀ q ∈ lw_privs_2, lw_okq q := List.forall_mem_cons.mpr ⟨lw_p16, List.forall_mem_cons.mpr ⟨lw_p17, List.forall_mem_cons.mpr ⟨lw_p18, List.forall_mem_cons.mpr ⟨lw_p19, List.forall_mem_cons.mpr ⟨lw_p20, List.forall_mem_cons.mpr ⟨lw_p21, List.forall_mem_cons.mpr ⟨lw_p22, List.forall_mem_cons.mpr ⟨lw_p23, List.forall_mem_cons.mpr ⟨lw_p24, List.forall_mem_cons.mpr ⟨lw_p25, List.forall_mem_cons.mpr ⟨lw_p26, List.forall_mem_cons.mpr ⟨lw_p27, List.forall_mem_cons.mpr ⟨lw_p28, List.forall_mem_cons.mpr ⟨lw_p29, List.forall_mem_cons.mpr ⟨lw_p30, List.forall_mem_cons.mpr ⟨lw_p31, fun _ h => absurd h List.not_mem_nil⟩⟩⟩⟩⟩⟩⟩⟩⟩⟩⟩⟩⟩⟩⟩⟩
theorem lw_p32 : lw_okq (⟨"TransferRingsModel", "present", "(I)I"⟩, 17) := ⟨⟨by decide +kernel, by decide +kernel⟩, List.mem_of_getElem? (i := 485) (by decide +kernel), List.mem_of_getElem? (i := 632) (by decide +kernel), List.mem_of_getElem? (i := 633) (by decide +kernel)⟩
theorem lw_p33 : lw_okq (⟨"TransferRingsModel", "carries", "(I)V"⟩, 17) := ⟨⟨by decide +kernel, by decide +kernel⟩, List.mem_of_getElem? (i := 485) (by decide +kernel), List.mem_of_getElem? (i := 636) (by decide +kernel), List.mem_of_getElem? (i := 637) (by decide +kernel)⟩
theorem lw_p34 : lw_okq (⟨"TransferRingsModel", "unitsOf", "(I)I"⟩, 17) := ⟨⟨by decide +kernel, by decide +kernel⟩, List.mem_of_getElem? (i := 485) (by decide +kernel), List.mem_of_getElem? (i := 640) (by decide +kernel), List.mem_of_getElem? (i := 641) (by decide +kernel)⟩
theorem lw_p35 : lw_okq (⟨"TransferRingsModel", "addressOf", "(III)I"⟩, 17) := ⟨⟨by decide +kernel, by decide +kernel⟩, List.mem_of_getElem? (i := 485) (by decide +kernel), List.mem_of_getElem? (i := 644) (by decide +kernel), List.mem_of_getElem? (i := 645) (by decide +kernel)⟩
theorem lw_p36 : lw_okq (⟨"TransferRingsModel", "writesAll", "(I)V"⟩, 17) := ⟨⟨by decide +kernel, by decide +kernel⟩, List.mem_of_getElem? (i := 485) (by decide +kernel), List.mem_of_getElem? (i := 658) (by decide +kernel), List.mem_of_getElem? (i := 659) (by decide +kernel)⟩
theorem lw_p37 : lw_okq (⟨"TransferRingsModel", "writesOf", "(I)J"⟩, 17) := ⟨⟨by decide +kernel, by decide +kernel⟩, List.mem_of_getElem? (i := 485) (by decide +kernel), List.mem_of_getElem? (i := 701) (by decide +kernel), List.mem_of_getElem? (i := 702) (by decide +kernel)⟩
theorem lw_p38 : lw_okq (⟨"TransferRingsModel", "overOf", "(I)I"⟩, 17) := ⟨⟨by decide +kernel, by decide +kernel⟩, List.mem_of_getElem? (i := 485) (by decide +kernel), List.mem_of_getElem? (i := 709) (by decide +kernel), List.mem_of_getElem? (i := 710) (by decide +kernel)⟩
theorem lw_p39 : lw_okq (⟨"TransferRingsModel", "hasEngines", "(I)Z"⟩, 17) := ⟨⟨by decide +kernel, by decide +kernel⟩, List.mem_of_getElem? (i := 485) (by decide +kernel), List.mem_of_getElem? (i := 713) (by decide +kernel), List.mem_of_getElem? (i := 714) (by decide +kernel)⟩
theorem lw_p40 : lw_okq (⟨"TransferRingsModel", "isSeen", "()Z"⟩, 17) := ⟨⟨by decide +kernel, by decide +kernel⟩, List.mem_of_getElem? (i := 485) (by decide +kernel), List.mem_of_getElem? (i := 741) (by decide +kernel), List.mem_of_getElem? (i := 742) (by decide +kernel)⟩
theorem lw_p41 : lw_okq (⟨"TransferRingsModel", "engines", "()I"⟩, 17) := ⟨⟨by decide +kernel, by decide +kernel⟩, List.mem_of_getElem? (i := 485) (by decide +kernel), List.mem_of_getElem? (i := 749) (by decide +kernel), List.mem_of_getElem? (i := 750) (by decide +kernel)⟩
def lw_privs_3 : List (MethodName × Nat) := [(⟨"TransferRingsModel", "present", "(I)I"⟩, 17), (⟨"TransferRingsModel", "carries", "(I)V"⟩, 17), (⟨"TransferRingsModel", "unitsOf", "(I)I"⟩, 17), (⟨"TransferRingsModel", "addressOf", "(III)I"⟩, 17), (⟨"TransferRingsModel", "writesAll", "(I)V"⟩, 17), (⟨"TransferRingsModel", "writesOf", "(I)J"⟩, 17), (⟨"TransferRingsModel", "overOf", "(I)I"⟩, 17), (⟨"TransferRingsModel", "hasEngines", "(I)Z"⟩, 17), (⟨"TransferRingsModel", "isSeen", "()Z"⟩, 17), (⟨"TransferRingsModel", "engines", "()I"⟩, 17)]
theorem lw_r3 : ∀ q ∈ lw_privs_3, lw_okq q := List.forall_mem_cons.mpr ⟨lw_p32, List.forall_mem_cons.mpr ⟨lw_p33, List.forall_mem_cons.mpr ⟨lw_p34, List.forall_mem_cons.mpr ⟨lw_p35, List.forall_mem_cons.mpr ⟨lw_p36, List.forall_mem_cons.mpr ⟨lw_p37, List.forall_mem_cons.mpr ⟨lw_p38, List.forall_mem_cons.mpr ⟨lw_p39, List.forall_mem_cons.mpr ⟨lw_p40, List.forall_mem_cons.mpr ⟨lw_p41, fun _ h => absurd h List.not_mem_nil⟩⟩⟩⟩⟩⟩⟩⟩⟩⟩
def lw_privs : List (MethodName × Nat) := lw_privs_1 ++ (lw_privs_2 ++ (lw_privs_3))
def lw_tbl : List Cond := k2_sels lw_privs ++ tables_1
theorem lw_privs_ok : ∀ q ∈ lw_privs, lw_okq q := by
  show ∀ q ∈ lw_privs_1 ++ (lw_privs_2 ++ (lw_privs_3)), lw_okq q
  exact List.forall_mem_append.mpr ⟨lw_r1, List.forall_mem_append.mpr ⟨lw_r2, lw_r3⟩⟩
end
section
def RX0 : String := "TransferRings$Engine"
def TX0 : u_T := fun k => match k with
  | 0 => ("TransferRings$Engine", "memory", "[I", true)
  | 1 => ("TransferRings$Engine", "channels", "[I", true)
  | 2 => ("TransferRings$Engine", "letters", "[I", true)
  | 3 => ("TransferRings$Engine", "queue", "[I", true)
  | 4 => ("TransferRings$Engine", "queued", "I", false)
  | 5 => ("TransferRings$Engine", "lastGranted", "I", false)
  | _ => ("TransferRings$Engine", "ticksGone", "I", false)
def tyX0 : Nat → FieldType := fun k => match k with
  | 0 => .array .int
  | 1 => .array .int
  | 2 => .array .int
  | 3 => .array .int
  | 4 => .int
  | 5 => .int
  | _ => .int
theorem nmX0 : ∀ a, a < 7 → ∀ b, b < 7 → a ≠ b → (TX0 a).2.1 ≠ (TX0 b).2.1 := by decide +kernel
theorem tyX0_ok : ∀ k, k < 7 → parseFieldDescriptor (TX0 k).2.2.1 = some (tyX0 k) := by decide +kernel
abbrev cX0_init : ByteArray := prog_2_method_1_code
def yX0_init : MethodName := ⟨RX0, "<init>", "()V"⟩
abbrev cX0_copyFrom : ByteArray := prog_2_method_2_code
def yX0_copyFrom : MethodName := ⟨RX0, "copyFrom", "(LTransferRings$Engine;)V"⟩
abbrev cX0_placeOf : ByteArray := prog_2_method_3_code
def yX0_placeOf : MethodName := ⟨RX0, "placeOf", "(II)I"⟩
abbrev cX0_slotBehind : ByteArray := prog_2_method_4_code
def yX0_slotBehind : MethodName := ⟨RX0, "slotBehind", "(I)I"⟩
abbrev cX0_ofChannel : ByteArray := prog_2_method_5_code
def yX0_ofChannel : MethodName := ⟨RX0, "ofChannel", "(II)I"⟩
abbrev cX0_setChannel : ByteArray := prog_2_method_6_code
def yX0_setChannel : MethodName := ⟨RX0, "setChannel", "(III)V"⟩
abbrev cX0_addOneTo : ByteArray := prog_2_method_7_code
def yX0_addOneTo : MethodName := ⟨RX0, "addOneTo", "(II)V"⟩
abbrev cX0_ofLetter : ByteArray := prog_2_method_8_code
def yX0_ofLetter : MethodName := ⟨RX0, "ofLetter", "(II)I"⟩
abbrev cX0_setLetter : ByteArray := prog_2_method_9_code
def yX0_setLetter : MethodName := ⟨RX0, "setLetter", "(III)V"⟩
abbrev cX0_hasLetter : ByteArray := prog_2_method_10_code
def yX0_hasLetter : MethodName := ⟨RX0, "hasLetter", "(I)Z"⟩
abbrev cX0_isEngines : ByteArray := prog_2_method_11_code
def yX0_isEngines : MethodName := ⟨RX0, "isEngines", "(I)Z"⟩
abbrev cX0_isToCarry : ByteArray := prog_2_method_12_code
def yX0_isToCarry : MethodName := ⟨RX0, "isToCarry", "(I)Z"⟩
abbrev cX0_unitsOf : ByteArray := prog_2_method_13_code
def yX0_unitsOf : MethodName := ⟨RX0, "unitsOf", "(I)I"⟩
abbrev cX0_addressOf : ByteArray := prog_2_method_14_code
def yX0_addressOf : MethodName := ⟨RX0, "addressOf", "(III)I"⟩
abbrev cX0_writtenBy : ByteArray := prog_2_method_15_code
def yX0_writtenBy : MethodName := ⟨RX0, "writtenBy", "(I)J"⟩
abbrev cX0_unitsBoundFor : ByteArray := prog_2_method_16_code
def yX0_unitsBoundFor : MethodName := ⟨RX0, "unitsBoundFor", "(I)I"⟩
abbrev cX0_uncarriedBoundFor : ByteArray := prog_2_method_17_code
def yX0_uncarriedBoundFor : MethodName := ⟨RX0, "uncarriedBoundFor", "(II)I"⟩
abbrev cX0_engineLettersOf : ByteArray := prog_2_method_18_code
def yX0_engineLettersOf : MethodName := ⟨RX0, "engineLettersOf", "(I)I"⟩
abbrev cX0_engineLetters : ByteArray := prog_2_method_19_code
def yX0_engineLetters : MethodName := ⟨RX0, "engineLetters", "()I"⟩
abbrev cX0_presentOf : ByteArray := prog_2_method_20_code
def yX0_presentOf : MethodName := ⟨RX0, "presentOf", "(I)I"⟩
abbrev cX0_isReady : ByteArray := prog_2_method_21_code
def yX0_isReady : MethodName := ⟨RX0, "isReady", "(I)Z"⟩
abbrev cX0_take : ByteArray := prog_2_method_22_code
def yX0_take : MethodName := ⟨RX0, "take", "(LTransferRings$Text;I)Z"⟩
abbrev cX0_post : ByteArray := prog_2_method_23_code
def yX0_post : MethodName := ⟨RX0, "post", "(ILTransferRings$Text;I)Z"⟩
abbrev cX0_tick : ByteArray := prog_2_method_24_code
def yX0_tick : MethodName := ⟨RX0, "tick", "(Z)I"⟩
abbrev cX0_writeBack : ByteArray := prog_2_method_25_code
def yX0_writeBack : MethodName := ⟨RX0, "writeBack", "(I)V"⟩
abbrev cX0_nextToGrant : ByteArray := prog_2_method_26_code
def yX0_nextToGrant : MethodName := ⟨RX0, "nextToGrant", "()I"⟩
abbrev cX0_grant : ByteArray := prog_2_method_27_code
def yX0_grant : MethodName := ⟨RX0, "grant", "(IZ)V"⟩
abbrev cX0_carry : ByteArray := prog_2_method_28_code
def yX0_carry : MethodName := ⟨RX0, "carry", "(III)V"⟩
abbrev cX0_letWait : ByteArray := prog_2_method_29_code
def yX0_letWait : MethodName := ⟨RX0, "letWait", "(II)V"⟩
abbrev cX0_cancel : ByteArray := prog_2_method_30_code
def yX0_cancel : MethodName := ⟨RX0, "cancel", "(I)I"⟩
abbrev cX0_writeBackAllOf : ByteArray := prog_2_method_31_code
def yX0_writeBackAllOf : MethodName := ⟨RX0, "writeBackAllOf", "(I)V"⟩
def RX1 : String := "TransferRings$History"
def TX1 : u_T := fun k => match k with
  | 0 => ("TransferRings$History", "past", "[LTransferRings$Engine;", true)
  | 1 => ("TransferRings$History", "newest", "I", false)
  | _ => ("TransferRings$History", "known", "I", false)
def tyX1 : Nat → FieldType := fun k => match k with
  | 0 => .array (.object "TransferRings$Engine")
  | 1 => .int
  | _ => .int
theorem nmX1 : ∀ a, a < 3 → ∀ b, b < 3 → a ≠ b → (TX1 a).2.1 ≠ (TX1 b).2.1 := by decide +kernel
theorem tyX1_ok : ∀ k, k < 3 → parseFieldDescriptor (TX1 k).2.2.1 = some (tyX1 k) := by decide +kernel
abbrev cX1_init : ByteArray := prog_3_method_1_code
def yX1_init : MethodName := ⟨RX1, "<init>", "()V"⟩
abbrev cX1_remember : ByteArray := prog_3_method_2_code
def yX1_remember : MethodName := ⟨RX1, "remember", "(LTransferRings$Engine;)V"⟩
abbrev cX1_restore : ByteArray := prog_3_method_3_code
def yX1_restore : MethodName := ⟨RX1, "restore", "(LTransferRings$Engine;)Z"⟩
abbrev cX1_lose : ByteArray := prog_3_method_4_code
def yX1_lose : MethodName := ⟨RX1, "lose", "()V"⟩
def RX2 : String := "TransferRings$Sightings"
def TX2 : u_T := fun k => match k with
  | 0 => ("TransferRings$Sightings", "inTick", "[I", true)
  | 1 => ("TransferRings$Sightings", "who", "[I", true)
  | _ => ("TransferRings$Sightings", "seen", "I", false)
def tyX2 : Nat → FieldType := fun k => match k with
  | 0 => .array .int
  | 1 => .array .int
  | _ => .int
theorem nmX2 : ∀ a, a < 3 → ∀ b, b < 3 → a ≠ b → (TX2 a).2.1 ≠ (TX2 b).2.1 := by decide +kernel
theorem tyX2_ok : ∀ k, k < 3 → parseFieldDescriptor (TX2 k).2.2.1 = some (tyX2 k) := by decide +kernel
abbrev cX2_init : ByteArray := prog_4_method_1_code
def yX2_init : MethodName := ⟨RX2, "<init>", "()V"⟩
abbrev cX2_note : ByteArray := prog_4_method_2_code
def yX2_note : MethodName := ⟨RX2, "note", "(II)Z"⟩
abbrev cX2_drop : ByteArray := prog_4_method_3_code
def yX2_drop : MethodName := ⟨RX2, "drop", "()V"⟩
abbrev cX2_comeTrue : ByteArray := prog_4_method_4_code
def yX2_comeTrue : MethodName := ⟨RX2, "comeTrue", "(LTransferRings$Engine;)Z"⟩
abbrev cX2_lastTick : ByteArray := prog_4_method_5_code
def yX2_lastTick : MethodName := ⟨RX2, "lastTick", "()I"⟩
abbrev cX2_allowsInTick : ByteArray := prog_4_method_6_code
def yX2_allowsInTick : MethodName := ⟨RX2, "allowsInTick", "(II)Z"⟩
def RX3 : String := "TransferRings$Text"
def TX3 : u_T := fun k => match k with
  | 0 => ("TransferRings$Text", "signs", "[I", true)
  | 1 => ("TransferRings$Text", "kinds", "[I", true)
  | 2 => ("TransferRings$Text", "numbers", "[I", true)
  | 3 => ("TransferRings$Text", "place", "I", false)
  | 4 => ("TransferRings$Text", "length", "I", false)
  | _ => ("TransferRings$Text", "itemCount", "I", false)
def tyX3 : Nat → FieldType := fun k => match k with
  | 0 => .array .int
  | 1 => .array .int
  | 2 => .array .int
  | 3 => .int
  | 4 => .int
  | _ => .int
theorem nmX3 : ∀ a, a < 6 → ∀ b, b < 6 → a ≠ b → (TX3 a).2.1 ≠ (TX3 b).2.1 := by decide +kernel
theorem tyX3_ok : ∀ k, k < 6 → parseFieldDescriptor (TX3 k).2.2.1 = some (tyX3 k) := by decide +kernel
abbrev cX3_init : ByteArray := prog_5_method_1_code
def yX3_init : MethodName := ⟨RX3, "<init>", "()V"⟩
abbrev cX3_append : ByteArray := prog_5_method_2_code
def yX3_append : MethodName := ⟨RX3, "append", "(I)Z"⟩
abbrev cX3_wipe : ByteArray := prog_5_method_3_code
def yX3_wipe : MethodName := ⟨RX3, "wipe", "()V"⟩
abbrev cX3_kind : ByteArray := prog_5_method_4_code
def yX3_kind : MethodName := ⟨RX3, "kind", "(I)I"⟩
abbrev cX3_number : ByteArray := prog_5_method_5_code
def yX3_number : MethodName := ⟨RX3, "number", "(II)I"⟩
abbrev cX3_read : ByteArray := prog_5_method_6_code
def yX3_read : MethodName := ⟨RX3, "read", "()I"⟩
abbrev cX3_readItem : ByteArray := prog_5_method_7_code
def yX3_readItem : MethodName := ⟨RX3, "readItem", "()Z"⟩
abbrev cX3_readForm : ByteArray := prog_5_method_8_code
def yX3_readForm : MethodName := ⟨RX3, "readForm", "(I[I[I)Z"⟩
abbrev cX3_readNumber : ByteArray := prog_5_method_9_code
def yX3_readNumber : MethodName := ⟨RX3, "readNumber", "(III)Z"⟩
abbrev cX3_isFigure : ByteArray := prog_5_method_10_code
def yX3_isFigure : MethodName := ⟨RX3, "isFigure", "(I)Z"⟩
abbrev cX3_skipBlanks : ByteArray := prog_5_method_11_code
def yX3_skipBlanks : MethodName := ⟨RX3, "skipBlanks", "()V"⟩
def RX4 : String := "TransferRings"
def TX4 : u_T := fun k => match k with
  | 0 => ("TransferRings", "text", "LTransferRings$Text;", true)
  | 1 => ("TransferRings", "now", "LTransferRings$Engine;", true)
  | 2 => ("TransferRings", "trial", "LTransferRings$Engine;", true)
  | 3 => ("TransferRings", "history", "LTransferRings$History;", true)
  | 4 => ("TransferRings", "sightings", "LTransferRings$Sightings;", true)
  | 5 => ("TransferRings", "images", "[LTransferRings$Engine;", true)
  | _ => ("TransferRings", "imageKept", "[Z", true)
def tyX4 : Nat → FieldType := fun k => match k with
  | 0 => .object "TransferRings$Text"
  | 1 => .object "TransferRings$Engine"
  | 2 => .object "TransferRings$Engine"
  | 3 => .object "TransferRings$History"
  | 4 => .object "TransferRings$Sightings"
  | 5 => .array (.object "TransferRings$Engine")
  | _ => .array .boolean
theorem nmX4 : ∀ a, a < 7 → ∀ b, b < 7 → a ≠ b → (TX4 a).2.1 ≠ (TX4 b).2.1 := by decide +kernel
theorem tyX4_ok : ∀ k, k < 7 → parseFieldDescriptor (TX4 k).2.2.1 = some (tyX4 k) := by decide +kernel
abbrev cX4_init : ByteArray := prog_1_method_1_code
def yX4_init : MethodName := ⟨RX4, "<init>", "()V"⟩
abbrev cX4_type : ByteArray := prog_1_method_2_code
def yX4_type : MethodName := ⟨RX4, "type", "(I)I"⟩
abbrev cX4_clear : ByteArray := prog_1_method_3_code
def yX4_clear : MethodName := ⟨RX4, "clear", "()I"⟩
abbrev cX4_posts : ByteArray := prog_1_method_4_code
def yX4_posts : MethodName := ⟨RX4, "posts", "()I"⟩
abbrev cX4_ticks : ByteArray := prog_1_method_5_code
def yX4_ticks : MethodName := ⟨RX4, "ticks", "(I)I"⟩
abbrev cX4_cancels : ByteArray := prog_1_method_6_code
def yX4_cancels : MethodName := ⟨RX4, "cancels", "(I)I"⟩
abbrev cX4_switches : ByteArray := prog_1_method_7_code
def yX4_switches : MethodName := ⟨RX4, "switches", "(I)I"⟩
abbrev cX4_tunes : ByteArray := prog_1_method_8_code
def yX4_tunes : MethodName := ⟨RX4, "tunes", "(III)I"⟩
abbrev cX4_undo : ByteArray := prog_1_method_9_code
def yX4_undo : MethodName := ⟨RX4, "undo", "()I"⟩
abbrev cX4_at : ByteArray := prog_1_method_10_code
def yX4_at : MethodName := ⟨RX4, "at", "(I)I"⟩
abbrev cX4_channel : ByteArray := prog_1_method_11_code
def yX4_channel : MethodName := ⟨RX4, "channel", "(II)I"⟩
abbrev cX4_slot : ByteArray := prog_1_method_12_code
def yX4_slot : MethodName := ⟨RX4, "slot", "(III)I"⟩
abbrev cX4_unit : ByteArray := prog_1_method_13_code
def yX4_unit : MethodName := ⟨RX4, "unit", "(IIII)I"⟩
abbrev cX4_waiting : ByteArray := prog_1_method_14_code
def yX4_waiting : MethodName := ⟨RX4, "waiting", "(I)I"⟩
abbrev cX4_both : ByteArray := prog_1_method_15_code
def yX4_both : MethodName := ⟨RX4, "both", "(IIII)I"⟩
abbrev cX4_over : ByteArray := prog_1_method_16_code
def yX4_over : MethodName := ⟨RX4, "over", "(I)I"⟩
abbrev cX4_lands : ByteArray := prog_1_method_17_code
def yX4_lands : MethodName := ⟨RX4, "lands", "(I)I"⟩
abbrev cX4_enough : ByteArray := prog_1_method_18_code
def yX4_enough : MethodName := ⟨RX4, "enough", "(II)I"⟩
abbrev cX4_granted : ByteArray := prog_1_method_19_code
def yX4_granted : MethodName := ⟨RX4, "granted", "(I)I"⟩
abbrev cX4_sees : ByteArray := prog_1_method_20_code
def yX4_sees : MethodName := ⟨RX4, "sees", "(II)I"⟩
abbrev cX4_forget : ByteArray := prog_1_method_21_code
def yX4_forget : MethodName := ⟨RX4, "forget", "()I"⟩
abbrev cX4_ranks : ByteArray := prog_1_method_22_code
def yX4_ranks : MethodName := ⟨RX4, "ranks", "(I)I"⟩
abbrev cX4_keep : ByteArray := prog_1_method_23_code
def yX4_keep : MethodName := ⟨RX4, "keep", "(I)I"⟩
abbrev cX4_back : ByteArray := prog_1_method_24_code
def yX4_back : MethodName := ⟨RX4, "back", "(I)I"⟩
abbrev cX4_count : ByteArray := prog_1_method_25_code
def yX4_count : MethodName := ⟨RX4, "count", "(I)I"⟩
abbrev cX4_within : ByteArray := prog_1_method_26_code
def yX4_within : MethodName := ⟨RX4, "within", "(III)Z"⟩
abbrev cX4_isChannel : ByteArray := prog_1_method_27_code
def yX4_isChannel : MethodName := ⟨RX4, "isChannel", "(I)Z"⟩
abbrev cX4_isSlot : ByteArray := prog_1_method_28_code
def yX4_isSlot : MethodName := ⟨RX4, "isSlot", "(II)Z"⟩
abbrev cX4_presentResidue : ByteArray := prog_1_method_29_code
def yX4_presentResidue : MethodName := ⟨RX4, "presentResidue", "(I)I"⟩
abbrev cX4_ticksUntilOver : ByteArray := prog_1_method_30_code
def yX4_ticksUntilOver : MethodName := ⟨RX4, "ticksUntilOver", "(II)I"⟩
def RX5 : String := "TransferRingsModel"
def TX5 : u_T := fun k => match k with
  | 0 => ("TransferRingsModel", "s", "[I", true)
  | 1 => ("TransferRingsModel", "undos", "I", false)
  | 2 => ("TransferRingsModel", "past", "[I", true)
  | 3 => ("TransferRingsModel", "isKept", "[Z", true)
  | 4 => ("TransferRingsModel", "kept", "[I", true)
  | 5 => ("TransferRingsModel", "spare", "[I", true)
  | 6 => ("TransferRingsModel", "seen", "I", false)
  | 7 => ("TransferRingsModel", "seenTick", "[I", true)
  | 8 => ("TransferRingsModel", "seenWho", "[I", true)
  | 9 => ("TransferRingsModel", "letters", "I", false)
  | 10 => ("TransferRingsModel", "text", "[I", true)
  | 11 => ("TransferRingsModel", "next", "I", false)
  | 12 => ("TransferRingsModel", "place", "I", false)
  | 13 => ("TransferRingsModel", "token", "I", false)
  | 14 => ("TransferRingsModel", "value", "I", false)
  | 15 => ("TransferRingsModel", "read", "[I", true)
  | _ => ("TransferRingsModel", "items", "I", false)
def tyX5 : Nat → FieldType := fun k => match k with
  | 0 => .array .int
  | 1 => .int
  | 2 => .array .int
  | 3 => .array .boolean
  | 4 => .array .int
  | 5 => .array .int
  | 6 => .int
  | 7 => .array .int
  | 8 => .array .int
  | 9 => .int
  | 10 => .array .int
  | 11 => .int
  | 12 => .int
  | 13 => .int
  | 14 => .int
  | 15 => .array .int
  | _ => .int
theorem nmX5 : ∀ a, a < 17 → ∀ b, b < 17 → a ≠ b → (TX5 a).2.1 ≠ (TX5 b).2.1 := by decide +kernel
theorem tyX5_ok : ∀ k, k < 17 → parseFieldDescriptor (TX5 k).2.2.1 = some (tyX5 k) := by decide +kernel
abbrev cX5_in : ByteArray := prog_7_method_1_code
def yX5_in : MethodName := ⟨RX5, "in", "(III)Z"⟩
abbrev cX5_init : ByteArray := prog_7_method_2_code
def yX5_init : MethodName := ⟨RX5, "<init>", "()V"⟩
abbrev cX5_type : ByteArray := prog_7_method_3_code
def yX5_type : MethodName := ⟨RX5, "type", "(I)I"⟩
abbrev cX5_clear : ByteArray := prog_7_method_4_code
def yX5_clear : MethodName := ⟨RX5, "clear", "()I"⟩
abbrev cX5_isFigure : ByteArray := prog_7_method_5_code
def yX5_isFigure : MethodName := ⟨RX5, "isFigure", "(I)Z"⟩
abbrev cX5_takesNumber : ByteArray := prog_7_method_6_code
def yX5_takesNumber : MethodName := ⟨RX5, "takesNumber", "()V"⟩
abbrev cX5_takes : ByteArray := prog_7_method_7_code
def yX5_takes : MethodName := ⟨RX5, "takes", "()V"⟩
abbrev cX5_reads : ByteArray := prog_7_method_8_code
def yX5_reads : MethodName := ⟨RX5, "reads", "(III)Z"⟩
abbrev cX5_readsLetter : ByteArray := prog_7_method_9_code
def yX5_readsLetter : MethodName := ⟨RX5, "readsLetter", "()Z"⟩
abbrev cX5_readsItem : ByteArray := prog_7_method_10_code
def yX5_readsItem : MethodName := ⟨RX5, "readsItem", "(I)Z"⟩
abbrev cX5_slotAt : ByteArray := prog_7_method_11_code
def yX5_slotAt : MethodName := ⟨RX5, "slotAt", "(II)I"⟩
abbrev cX5_channelAt : ByteArray := prog_7_method_12_code
def yX5_channelAt : MethodName := ⟨RX5, "channelAt", "(I)I"⟩
abbrev cX5_isEngines : ByteArray := prog_7_method_13_code
def yX5_isEngines : MethodName := ⟨RX5, "isEngines", "(I)Z"⟩
abbrev cX5_comes : ByteArray := prog_7_method_14_code
def yX5_comes : MethodName := ⟨RX5, "comes", "()Z"⟩
abbrev cX5_doesItem : ByteArray := prog_7_method_15_code
def yX5_doesItem : MethodName := ⟨RX5, "doesItem", "(I)Z"⟩
abbrev cX5_goesThrough : ByteArray := prog_7_method_16_code
def yX5_goesThrough : MethodName := ⟨RX5, "goesThrough", "(Z)Z"⟩
abbrev cX5_keepsSpare : ByteArray := prog_7_method_17_code
def yX5_keepsSpare : MethodName := ⟨RX5, "keepsSpare", "()V"⟩
abbrev cX5_takesBack : ByteArray := prog_7_method_18_code
def yX5_takesBack : MethodName := ⟨RX5, "takesBack", "()V"⟩
abbrev cX5_remembers : ByteArray := prog_7_method_19_code
def yX5_remembers : MethodName := ⟨RX5, "remembers", "()V"⟩
abbrev cX5_posts : ByteArray := prog_7_method_20_code
def yX5_posts : MethodName := ⟨RX5, "posts", "()I"⟩
abbrev cX5_present : ByteArray := prog_7_method_21_code
def yX5_present : MethodName := ⟨RX5, "present", "(I)I"⟩
abbrev cX5_isReady : ByteArray := prog_7_method_22_code
def yX5_isReady : MethodName := ⟨RX5, "isReady", "(I)Z"⟩
abbrev cX5_writes : ByteArray := prog_7_method_23_code
def yX5_writes : MethodName := ⟨RX5, "writes", "(I)V"⟩
abbrev cX5_around : ByteArray := prog_7_method_24_code
def yX5_around : MethodName := ⟨RX5, "around", "(I)I"⟩
abbrev cX5_addressOf : ByteArray := prog_7_method_25_code
def yX5_addressOf : MethodName := ⟨RX5, "addressOf", "(III)I"⟩
abbrev cX5_unitsOf : ByteArray := prog_7_method_26_code
def yX5_unitsOf : MethodName := ⟨RX5, "unitsOf", "(I)I"⟩
abbrev cX5_carries : ByteArray := prog_7_method_27_code
def yX5_carries : MethodName := ⟨RX5, "carries", "(I)V"⟩
abbrev cX5_ticksOnce : ByteArray := prog_7_method_28_code
def yX5_ticksOnce : MethodName := ⟨RX5, "ticksOnce", "()I"⟩
abbrev cX5_ticks : ByteArray := prog_7_method_29_code
def yX5_ticks : MethodName := ⟨RX5, "ticks", "(I)I"⟩
abbrev cX5_isChannel : ByteArray := prog_7_method_30_code
def yX5_isChannel : MethodName := ⟨RX5, "isChannel", "(I)Z"⟩
abbrev cX5_writesAll : ByteArray := prog_7_method_31_code
def yX5_writesAll : MethodName := ⟨RX5, "writesAll", "(I)V"⟩
abbrev cX5_cancels : ByteArray := prog_7_method_32_code
def yX5_cancels : MethodName := ⟨RX5, "cancels", "(I)I"⟩
abbrev cX5_switches : ByteArray := prog_7_method_33_code
def yX5_switches : MethodName := ⟨RX5, "switches", "(I)I"⟩
abbrev cX5_tunes : ByteArray := prog_7_method_34_code
def yX5_tunes : MethodName := ⟨RX5, "tunes", "(III)I"⟩
abbrev cX5_undo : ByteArray := prog_7_method_35_code
def yX5_undo : MethodName := ⟨RX5, "undo", "()I"⟩
abbrev cX5_at : ByteArray := prog_7_method_36_code
def yX5_at : MethodName := ⟨RX5, "at", "(I)I"⟩
abbrev cX5_channel : ByteArray := prog_7_method_37_code
def yX5_channel : MethodName := ⟨RX5, "channel", "(II)I"⟩
abbrev cX5_isSlot : ByteArray := prog_7_method_38_code
def yX5_isSlot : MethodName := ⟨RX5, "isSlot", "(II)Z"⟩
abbrev cX5_slot : ByteArray := prog_7_method_39_code
def yX5_slot : MethodName := ⟨RX5, "slot", "(III)I"⟩
abbrev cX5_unit : ByteArray := prog_7_method_40_code
def yX5_unit : MethodName := ⟨RX5, "unit", "(IIII)I"⟩
abbrev cX5_waiting : ByteArray := prog_7_method_41_code
def yX5_waiting : MethodName := ⟨RX5, "waiting", "(I)I"⟩
abbrev cX5_writesOf : ByteArray := prog_7_method_42_code
def yX5_writesOf : MethodName := ⟨RX5, "writesOf", "(I)J"⟩
abbrev cX5_both : ByteArray := prog_7_method_43_code
def yX5_both : MethodName := ⟨RX5, "both", "(IIII)I"⟩
abbrev cX5_hasEngines : ByteArray := prog_7_method_44_code
def yX5_hasEngines : MethodName := ⟨RX5, "hasEngines", "(I)Z"⟩
abbrev cX5_overOf : ByteArray := prog_7_method_45_code
def yX5_overOf : MethodName := ⟨RX5, "overOf", "(I)I"⟩
abbrev cX5_over : ByteArray := prog_7_method_46_code
def yX5_over : MethodName := ⟨RX5, "over", "(I)I"⟩
abbrev cX5_lands : ByteArray := prog_7_method_47_code
def yX5_lands : MethodName := ⟨RX5, "lands", "(I)I"⟩
abbrev cX5_enough : ByteArray := prog_7_method_48_code
def yX5_enough : MethodName := ⟨RX5, "enough", "(II)I"⟩
abbrev cX5_granted : ByteArray := prog_7_method_49_code
def yX5_granted : MethodName := ⟨RX5, "granted", "(I)I"⟩
abbrev cX5_sees : ByteArray := prog_7_method_50_code
def yX5_sees : MethodName := ⟨RX5, "sees", "(II)I"⟩
abbrev cX5_forget : ByteArray := prog_7_method_51_code
def yX5_forget : MethodName := ⟨RX5, "forget", "()I"⟩
abbrev cX5_isSeen : ByteArray := prog_7_method_52_code
def yX5_isSeen : MethodName := ⟨RX5, "isSeen", "()Z"⟩
abbrev cX5_ranks : ByteArray := prog_7_method_53_code
def yX5_ranks : MethodName := ⟨RX5, "ranks", "(I)I"⟩
abbrev cX5_engines : ByteArray := prog_7_method_54_code
def yX5_engines : MethodName := ⟨RX5, "engines", "()I"⟩
abbrev cX5_keep : ByteArray := prog_7_method_55_code
def yX5_keep : MethodName := ⟨RX5, "keep", "(I)I"⟩
abbrev cX5_back : ByteArray := prog_7_method_56_code
def yX5_back : MethodName := ⟨RX5, "back", "(I)I"⟩
abbrev cX5_count : ByteArray := prog_7_method_57_code
def yX5_count : MethodName := ⟨RX5, "count", "(I)I"⟩
def RJ13 : String := "java/lang/Long"
def TJ13 : u_T := fun k => match k with
  | _ => ("", "", "", false)
def tyJ13 : Nat → FieldType := fun k => match k with
  | _ => .int
abbrev cJ13_bitCount_95d88 : ByteArray := prog_8_method_50_code
def yJ13_bitCount_95d88 : MethodName := ⟨RJ13, "bitCount", "(J)I"⟩
def RJ9 : String := "java/lang/Math"
def TJ9 : u_T := fun k => match k with
  | _ => ("", "", "", false)
def tyJ9 : Nat → FieldType := fun k => match k with
  | _ => .int
abbrev cJ9_floorMod_7cf53 : ByteArray := prog_9_method_50_code
def yJ9_floorMod_7cf53 : MethodName := ⟨RJ9, "floorMod", "(II)I"⟩
abbrev cJ9_max_7cf53 : ByteArray := prog_9_method_65_code
def yJ9_max_7cf53 : MethodName := ⟨RJ9, "max", "(II)I"⟩
abbrev cJ9_min_7cf53 : ByteArray := prog_9_method_69_code
def yJ9_min_7cf53 : MethodName := ⟨RJ9, "min", "(II)I"⟩
def RJ10 : String := "java/lang/System"
def TJ10 : u_T := fun k => match k with
  | _ => ("", "", "", false)
def tyJ10 : Nat → FieldType := fun k => match k with
  | _ => .int
def RL : String := "TransferRingsLaw"
abbrev cL_law : ByteArray := code
def yL_law : MethodName := ⟨RL, "law", "([I)Z"⟩
abbrev classes : List vw_C := [(RX0, TX0, 7), (RX1, TX1, 3), (RX2, TX2, 3), (RX3, TX3, 6), (RX4, TX4, 7), (RX5, TX5, 17)]
end
section
set_option maxRecDepth 20000 in
def lw_g : List Cond := lw_tbl.filter goodWord
set_option maxRecDepth 20000 in
theorem mg {w : Cond} (i : Nat) (h : lw_tbl[i]? = some w) (hg : goodWord w = true) : w ∈ lw_g := List.mem_filter.mpr ⟨List.mem_of_getElem? h, hg⟩
set_option maxRecDepth 20000 in
theorem m_se_X3_skipBlanks : Cond.selects RX3 yX3_skipBlanks yX3_skipBlanks ∈ lw_g := mg 0 (by decide +kernel) (by decide +kernel)
set_option maxRecDepth 20000 in
theorem m_se_X3_readItem : Cond.selects RX3 yX3_readItem yX3_readItem ∈ lw_g := mg 1 (by decide +kernel) (by decide +kernel)
set_option maxRecDepth 20000 in
theorem m_se_X3_readForm : Cond.selects RX3 yX3_readForm yX3_readForm ∈ lw_g := mg 2 (by decide +kernel) (by decide +kernel)
set_option maxRecDepth 20000 in
theorem m_se_X3_readNumber : Cond.selects RX3 yX3_readNumber yX3_readNumber ∈ lw_g := mg 3 (by decide +kernel) (by decide +kernel)
set_option maxRecDepth 20000 in
theorem m_se_X0_post : Cond.selects RX0 yX0_post yX0_post ∈ lw_g := mg 4 (by decide +kernel) (by decide +kernel)
set_option maxRecDepth 20000 in
theorem m_se_X0_writeBack : Cond.selects RX0 yX0_writeBack yX0_writeBack ∈ lw_g := mg 5 (by decide +kernel) (by decide +kernel)
set_option maxRecDepth 20000 in
theorem m_se_X0_nextToGrant : Cond.selects RX0 yX0_nextToGrant yX0_nextToGrant ∈ lw_g := mg 6 (by decide +kernel) (by decide +kernel)
set_option maxRecDepth 20000 in
theorem m_se_X0_grant : Cond.selects RX0 yX0_grant yX0_grant ∈ lw_g := mg 7 (by decide +kernel) (by decide +kernel)
set_option maxRecDepth 20000 in
theorem m_se_X0_carry : Cond.selects RX0 yX0_carry yX0_carry ∈ lw_g := mg 8 (by decide +kernel) (by decide +kernel)
set_option maxRecDepth 20000 in
theorem m_se_X0_letWait : Cond.selects RX0 yX0_letWait yX0_letWait ∈ lw_g := mg 9 (by decide +kernel) (by decide +kernel)
set_option maxRecDepth 20000 in
theorem m_se_X0_writeBackAllOf : Cond.selects RX0 yX0_writeBackAllOf yX0_writeBackAllOf ∈ lw_g := mg 10 (by decide +kernel) (by decide +kernel)
set_option maxRecDepth 20000 in
theorem m_se_X4_presentResidue : Cond.selects RX4 yX4_presentResidue yX4_presentResidue ∈ lw_g := mg 11 (by decide +kernel) (by decide +kernel)
set_option maxRecDepth 20000 in
theorem m_se_X4_ticksUntilOver : Cond.selects RX4 yX4_ticksUntilOver yX4_ticksUntilOver ∈ lw_g := mg 12 (by decide +kernel) (by decide +kernel)
set_option maxRecDepth 20000 in
theorem m_se_X0_uncarriedBoundFor : Cond.selects RX0 yX0_uncarriedBoundFor yX0_uncarriedBoundFor ∈ lw_g := mg 13 (by decide +kernel) (by decide +kernel)
set_option maxRecDepth 20000 in
theorem m_se_X2_lastTick : Cond.selects RX2 yX2_lastTick yX2_lastTick ∈ lw_g := mg 14 (by decide +kernel) (by decide +kernel)
set_option maxRecDepth 20000 in
theorem m_se_X2_allowsInTick : Cond.selects RX2 yX2_allowsInTick yX2_allowsInTick ∈ lw_g := mg 15 (by decide +kernel) (by decide +kernel)
set_option maxRecDepth 20000 in
theorem m_se_X5_goesThrough : Cond.selects RX5 yX5_goesThrough yX5_goesThrough ∈ lw_g := mg 16 (by decide +kernel) (by decide +kernel)
set_option maxRecDepth 20000 in
theorem m_se_X5_takes : Cond.selects RX5 yX5_takes yX5_takes ∈ lw_g := mg 17 (by decide +kernel) (by decide +kernel)
set_option maxRecDepth 20000 in
theorem m_se_X5_isFigure : Cond.selects RX5 yX5_isFigure yX5_isFigure ∈ lw_g := mg 18 (by decide +kernel) (by decide +kernel)
set_option maxRecDepth 20000 in
theorem m_se_X5_takesNumber : Cond.selects RX5 yX5_takesNumber yX5_takesNumber ∈ lw_g := mg 19 (by decide +kernel) (by decide +kernel)
set_option maxRecDepth 20000 in
theorem m_se_X5_readsItem : Cond.selects RX5 yX5_readsItem yX5_readsItem ∈ lw_g := mg 20 (by decide +kernel) (by decide +kernel)
set_option maxRecDepth 20000 in
theorem m_se_X5_readsLetter : Cond.selects RX5 yX5_readsLetter yX5_readsLetter ∈ lw_g := mg 21 (by decide +kernel) (by decide +kernel)
set_option maxRecDepth 20000 in
theorem m_se_X5_reads : Cond.selects RX5 yX5_reads yX5_reads ∈ lw_g := mg 22 (by decide +kernel) (by decide +kernel)
set_option maxRecDepth 20000 in
theorem m_se_X5_doesItem : Cond.selects RX5 yX5_doesItem yX5_doesItem ∈ lw_g := mg 23 (by decide +kernel) (by decide +kernel)
set_option maxRecDepth 20000 in
theorem m_se_X5_comes : Cond.selects RX5 yX5_comes yX5_comes ∈ lw_g := mg 24 (by decide +kernel) (by decide +kernel)
set_option maxRecDepth 20000 in
theorem m_se_X5_isEngines : Cond.selects RX5 yX5_isEngines yX5_isEngines ∈ lw_g := mg 25 (by decide +kernel) (by decide +kernel)
set_option maxRecDepth 20000 in
theorem m_se_X5_keepsSpare : Cond.selects RX5 yX5_keepsSpare yX5_keepsSpare ∈ lw_g := mg 26 (by decide +kernel) (by decide +kernel)
set_option maxRecDepth 20000 in
theorem m_se_X5_takesBack : Cond.selects RX5 yX5_takesBack yX5_takesBack ∈ lw_g := mg 27 (by decide +kernel) (by decide +kernel)
set_option maxRecDepth 20000 in
theorem m_se_X5_remembers : Cond.selects RX5 yX5_remembers yX5_remembers ∈ lw_g := mg 28 (by decide +kernel) (by decide +kernel)
set_option maxRecDepth 20000 in
theorem m_se_X5_ticksOnce : Cond.selects RX5 yX5_ticksOnce yX5_ticksOnce ∈ lw_g := mg 29 (by decide +kernel) (by decide +kernel)
set_option maxRecDepth 20000 in
theorem m_se_X5_writes : Cond.selects RX5 yX5_writes yX5_writes ∈ lw_g := mg 30 (by decide +kernel) (by decide +kernel)
set_option maxRecDepth 20000 in
theorem m_se_X5_isReady : Cond.selects RX5 yX5_isReady yX5_isReady ∈ lw_g := mg 31 (by decide +kernel) (by decide +kernel)
set_option maxRecDepth 20000 in
theorem m_se_X5_present : Cond.selects RX5 yX5_present yX5_present ∈ lw_g := mg 32 (by decide +kernel) (by decide +kernel)
set_option maxRecDepth 20000 in
theorem m_se_X5_carries : Cond.selects RX5 yX5_carries yX5_carries ∈ lw_g := mg 33 (by decide +kernel) (by decide +kernel)
set_option maxRecDepth 20000 in
theorem m_se_X5_unitsOf : Cond.selects RX5 yX5_unitsOf yX5_unitsOf ∈ lw_g := mg 34 (by decide +kernel) (by decide +kernel)
set_option maxRecDepth 20000 in
theorem m_se_X5_addressOf : Cond.selects RX5 yX5_addressOf yX5_addressOf ∈ lw_g := mg 35 (by decide +kernel) (by decide +kernel)
set_option maxRecDepth 20000 in
theorem m_se_X5_writesAll : Cond.selects RX5 yX5_writesAll yX5_writesAll ∈ lw_g := mg 36 (by decide +kernel) (by decide +kernel)
set_option maxRecDepth 20000 in
theorem m_se_X5_writesOf : Cond.selects RX5 yX5_writesOf yX5_writesOf ∈ lw_g := mg 37 (by decide +kernel) (by decide +kernel)
set_option maxRecDepth 20000 in
theorem m_se_X5_overOf : Cond.selects RX5 yX5_overOf yX5_overOf ∈ lw_g := mg 38 (by decide +kernel) (by decide +kernel)
set_option maxRecDepth 20000 in
theorem m_se_X5_hasEngines : Cond.selects RX5 yX5_hasEngines yX5_hasEngines ∈ lw_g := mg 39 (by decide +kernel) (by decide +kernel)
set_option maxRecDepth 20000 in
theorem m_se_X5_isSeen : Cond.selects RX5 yX5_isSeen yX5_isSeen ∈ lw_g := mg 40 (by decide +kernel) (by decide +kernel)
set_option maxRecDepth 20000 in
theorem m_se_X5_engines : Cond.selects RX5 yX5_engines yX5_engines ∈ lw_g := mg 41 (by decide +kernel) (by decide +kernel)
set_option maxRecDepth 20000 in
theorem m_in_L : Cond.initialized RL ∈ lw_g := mg 42 (by decide +kernel) (by decide +kernel)
set_option maxRecDepth 20000 in
theorem m_in_X4 : Cond.initialized RX4 ∈ lw_g := mg 43 (by decide +kernel) (by decide +kernel)
set_option maxRecDepth 20000 in
theorem m_in_X3 : Cond.initialized RX3 ∈ lw_g := mg 44 (by decide +kernel) (by decide +kernel)
set_option maxRecDepth 20000 in
theorem m_in_X0 : Cond.initialized RX0 ∈ lw_g := mg 45 (by decide +kernel) (by decide +kernel)
set_option maxRecDepth 20000 in
theorem m_in_X1 : Cond.initialized RX1 ∈ lw_g := mg 46 (by decide +kernel) (by decide +kernel)
set_option maxRecDepth 20000 in
theorem m_in_X2 : Cond.initialized RX2 ∈ lw_g := mg 47 (by decide +kernel) (by decide +kernel)
set_option maxRecDepth 20000 in
theorem m_in_X5 : Cond.initialized RX5 ∈ lw_g := mg 48 (by decide +kernel) (by decide +kernel)
set_option maxRecDepth 20000 in
theorem m_in_J10 : Cond.initialized RJ10 ∈ lw_g := mg 49 (by decide +kernel) (by decide +kernel)
set_option maxRecDepth 20000 in
theorem m_in_J9 : Cond.initialized RJ9 ∈ lw_g := mg 50 (by decide +kernel) (by decide +kernel)
set_option maxRecDepth 20000 in
theorem m_in_J13 : Cond.initialized RJ13 ∈ lw_g := mg 51 (by decide +kernel) (by decide +kernel)
set_option maxRecDepth 20000 in
theorem m_cl_L_7 : Cond.classLink RL 7 RX4 ∈ lw_g := mg 52 (by decide +kernel) (by decide +kernel)
set_option maxRecDepth 20000 in
theorem m_is_X4 : Cond.instantiable RX4 7 ∈ lw_g := mg 53 (by decide +kernel) (by decide +kernel)
set_option maxRecDepth 20000 in
theorem m_ml_L_9 : Cond.methodLink RL 9 yX4_init ∈ lw_g := mg 54 (by decide +kernel) (by decide +kernel)
set_option maxRecDepth 20000 in
theorem m_im_X4_init : Cond.instanceMethod yX4_init ∈ lw_g := mg 55 (by decide +kernel) (by decide +kernel)
set_option maxRecDepth 20000 in
theorem m_co_X4_init : Cond.code yX4_init cX4_init 2 none ∈ lw_g := mg 56 rfl rfl
set_option maxRecDepth 20000 in
theorem m_ml_X4_1 : Cond.methodLink RX4 1 objectInit ∈ lw_g := mg 57 (by decide +kernel) (by decide +kernel)
set_option maxRecDepth 20000 in
theorem m_im_objectInit : Cond.instanceMethod objectInit ∈ lw_g := mg 58 (by decide +kernel) (by decide +kernel)
set_option maxRecDepth 20000 in
theorem m_co_objectInit : Cond.code objectInit ⟨#[0xb1]⟩ 1 none ∈ lw_g := mg 59 rfl rfl
set_option maxRecDepth 20000 in
theorem m_cl_X4_7 : Cond.classLink RX4 7 RX3 ∈ lw_g := mg 60 (by decide +kernel) (by decide +kernel)
set_option maxRecDepth 20000 in
theorem m_is_X3 : Cond.instantiable RX3 6 ∈ lw_g := mg 61 (by decide +kernel) (by decide +kernel)
set_option maxRecDepth 20000 in
theorem m_ml_X4_9 : Cond.methodLink RX4 9 yX3_init ∈ lw_g := mg 62 (by decide +kernel) (by decide +kernel)
set_option maxRecDepth 20000 in
theorem m_im_X3_init : Cond.instanceMethod yX3_init ∈ lw_g := mg 63 (by decide +kernel) (by decide +kernel)
set_option maxRecDepth 20000 in
theorem m_co_X3_init : Cond.code yX3_init cX3_init 1 none ∈ lw_g := mg 64 rfl rfl
set_option maxRecDepth 20000 in
theorem m_ml_X3_3 : Cond.methodLink RX3 3 objectInit ∈ lw_g := mg 65 (by decide +kernel) (by decide +kernel)
set_option maxRecDepth 20000 in
theorem m_fl_X3_9 : Cond.fieldLink RX3 9 "TransferRings$Text" "signs" "[I" ∈ lw_g := mg 66 (by decide +kernel) (by decide +kernel)
set_option maxRecDepth 20000 in
theorem m_fl_X3_13 : Cond.fieldLink RX3 13 "TransferRings$Text" "kinds" "[I" ∈ lw_g := mg 67 (by decide +kernel) (by decide +kernel)
set_option maxRecDepth 20000 in
theorem m_fl_X3_16 : Cond.fieldLink RX3 16 "TransferRings$Text" "numbers" "[I" ∈ lw_g := mg 68 (by decide +kernel) (by decide +kernel)
set_option maxRecDepth 20000 in
theorem m_fl_X3_19 : Cond.fieldLink RX3 19 "TransferRings$Text" "place" "I" ∈ lw_g := mg 69 (by decide +kernel) (by decide +kernel)
set_option maxRecDepth 20000 in
theorem m_fl_X3_23 : Cond.fieldLink RX3 23 "TransferRings$Text" "length" "I" ∈ lw_g := mg 70 (by decide +kernel) (by decide +kernel)
set_option maxRecDepth 20000 in
theorem m_fl_X4_56 : Cond.fieldLink RX4 56 "TransferRings$Text" "length" "I" ∈ lw_g := mg 71 (by decide +kernel) (by decide +kernel)
set_option maxRecDepth 20000 in
theorem m_fl_X3_26 : Cond.fieldLink RX3 26 "TransferRings$Text" "itemCount" "I" ∈ lw_g := mg 72 (by decide +kernel) (by decide +kernel)
set_option maxRecDepth 20000 in
theorem m_fl_X4_71 : Cond.fieldLink RX4 71 "TransferRings$Text" "itemCount" "I" ∈ lw_g := mg 73 (by decide +kernel) (by decide +kernel)
set_option maxRecDepth 20000 in
theorem m_ac_int : Cond.arrayClass .int ∈ lw_g := mg 87 (by decide +kernel) (by decide +kernel)
set_option maxRecDepth 20000 in
theorem m_cl_X4_16 : Cond.classLink RX4 16 RX0 ∈ lw_g := mg 88 (by decide +kernel) (by decide +kernel)
set_option maxRecDepth 20000 in
theorem m_is_X0 : Cond.instantiable RX0 7 ∈ lw_g := mg 89 (by decide +kernel) (by decide +kernel)
set_option maxRecDepth 20000 in
theorem m_ml_X4_18 : Cond.methodLink RX4 18 yX0_init ∈ lw_g := mg 90 (by decide +kernel) (by decide +kernel)
set_option maxRecDepth 20000 in
theorem m_im_X0_init : Cond.instanceMethod yX0_init ∈ lw_g := mg 91 (by decide +kernel) (by decide +kernel)
set_option maxRecDepth 20000 in
theorem m_co_X0_init : Cond.code yX0_init cX0_init 2 none ∈ lw_g := mg 92 rfl rfl
set_option maxRecDepth 20000 in
theorem m_ml_X0_3 : Cond.methodLink RX0 3 objectInit ∈ lw_g := mg 93 (by decide +kernel) (by decide +kernel)
set_option maxRecDepth 20000 in
theorem m_fl_X0_9 : Cond.fieldLink RX0 9 "TransferRings$Engine" "memory" "[I" ∈ lw_g := mg 94 (by decide +kernel) (by decide +kernel)
set_option maxRecDepth 20000 in
theorem m_fl_X4_110 : Cond.fieldLink RX4 110 "TransferRings$Engine" "memory" "[I" ∈ lw_g := mg 95 (by decide +kernel) (by decide +kernel)
set_option maxRecDepth 20000 in
theorem m_fl_X0_15 : Cond.fieldLink RX0 15 "TransferRings$Engine" "channels" "[I" ∈ lw_g := mg 96 (by decide +kernel) (by decide +kernel)
set_option maxRecDepth 20000 in
theorem m_fl_X0_18 : Cond.fieldLink RX0 18 "TransferRings$Engine" "letters" "[I" ∈ lw_g := mg 97 (by decide +kernel) (by decide +kernel)
set_option maxRecDepth 20000 in
theorem m_fl_X0_21 : Cond.fieldLink RX0 21 "TransferRings$Engine" "queue" "[I" ∈ lw_g := mg 98 (by decide +kernel) (by decide +kernel)
set_option maxRecDepth 20000 in
theorem m_fl_X4_143 : Cond.fieldLink RX4 143 "TransferRings$Engine" "queue" "[I" ∈ lw_g := mg 99 (by decide +kernel) (by decide +kernel)
set_option maxRecDepth 20000 in
theorem m_fl_X0_24 : Cond.fieldLink RX0 24 "TransferRings$Engine" "queued" "I" ∈ lw_g := mg 100 (by decide +kernel) (by decide +kernel)
set_option maxRecDepth 20000 in
theorem m_fl_X4_140 : Cond.fieldLink RX4 140 "TransferRings$Engine" "queued" "I" ∈ lw_g := mg 101 (by decide +kernel) (by decide +kernel)
set_option maxRecDepth 20000 in
theorem m_fl_X0_28 : Cond.fieldLink RX0 28 "TransferRings$Engine" "lastGranted" "I" ∈ lw_g := mg 102 (by decide +kernel) (by decide +kernel)
set_option maxRecDepth 20000 in
theorem m_fl_X4_180 : Cond.fieldLink RX4 180 "TransferRings$Engine" "lastGranted" "I" ∈ lw_g := mg 103 (by decide +kernel) (by decide +kernel)
set_option maxRecDepth 20000 in
theorem m_fl_X0_31 : Cond.fieldLink RX0 31 "TransferRings$Engine" "ticksGone" "I" ∈ lw_g := mg 104 (by decide +kernel) (by decide +kernel)
set_option maxRecDepth 20000 in
theorem m_fl_X4_183 : Cond.fieldLink RX4 183 "TransferRings$Engine" "ticksGone" "I" ∈ lw_g := mg 105 (by decide +kernel) (by decide +kernel)
set_option maxRecDepth 20000 in
theorem m_cl_X4_26 : Cond.classLink RX4 26 RX1 ∈ lw_g := mg 121 (by decide +kernel) (by decide +kernel)
set_option maxRecDepth 20000 in
theorem m_is_X1 : Cond.instantiable RX1 3 ∈ lw_g := mg 122 (by decide +kernel) (by decide +kernel)
set_option maxRecDepth 20000 in
theorem m_ml_X4_28 : Cond.methodLink RX4 28 yX1_init ∈ lw_g := mg 123 (by decide +kernel) (by decide +kernel)
set_option maxRecDepth 20000 in
theorem m_im_X1_init : Cond.instanceMethod yX1_init ∈ lw_g := mg 124 (by decide +kernel) (by decide +kernel)
set_option maxRecDepth 20000 in
theorem m_co_X1_init : Cond.code yX1_init cX1_init 2 none ∈ lw_g := mg 125 rfl rfl
set_option maxRecDepth 20000 in
theorem m_ml_X1_1 : Cond.methodLink RX1 1 objectInit ∈ lw_g := mg 126 (by decide +kernel) (by decide +kernel)
set_option maxRecDepth 20000 in
theorem m_cl_X1_9 : Cond.classLink RX1 9 RX0 ∈ lw_g := mg 127 (by decide +kernel) (by decide +kernel)
set_option maxRecDepth 20000 in
theorem m_ao : Cond.arrayOver (.object RX0) ∈ lw_tbl := List.mem_of_getElem? (i := 128) (by decide +kernel)
set_option maxRecDepth 20000 in
theorem m_ml_X1_15 : Cond.methodLink RX1 15 yX0_init ∈ lw_g := mg 129 (by decide +kernel) (by decide +kernel)
set_option maxRecDepth 20000 in
theorem m_fl_X1_11 : Cond.fieldLink RX1 11 "TransferRings$History" "past" "[LTransferRings$Engine;" ∈ lw_g := mg 130 (by decide +kernel) (by decide +kernel)
set_option maxRecDepth 20000 in
theorem m_fl_X1_16 : Cond.fieldLink RX1 16 "TransferRings$History" "newest" "I" ∈ lw_g := mg 131 (by decide +kernel) (by decide +kernel)
set_option maxRecDepth 20000 in
theorem m_fl_X1_20 : Cond.fieldLink RX1 20 "TransferRings$History" "known" "I" ∈ lw_g := mg 132 (by decide +kernel) (by decide +kernel)
set_option maxRecDepth 20000 in
theorem m_fl_X4_107 : Cond.fieldLink RX4 107 "TransferRings$History" "known" "I" ∈ lw_g := mg 133 (by decide +kernel) (by decide +kernel)
set_option maxRecDepth 20000 in
theorem m_cl_X4_33 : Cond.classLink RX4 33 RX2 ∈ lw_g := mg 141 (by decide +kernel) (by decide +kernel)
set_option maxRecDepth 20000 in
theorem m_is_X2 : Cond.instantiable RX2 3 ∈ lw_g := mg 142 (by decide +kernel) (by decide +kernel)
set_option maxRecDepth 20000 in
theorem m_ml_X4_35 : Cond.methodLink RX4 35 yX2_init ∈ lw_g := mg 143 (by decide +kernel) (by decide +kernel)
set_option maxRecDepth 20000 in
theorem m_im_X2_init : Cond.instanceMethod yX2_init ∈ lw_g := mg 144 (by decide +kernel) (by decide +kernel)
set_option maxRecDepth 20000 in
theorem m_co_X2_init : Cond.code yX2_init cX2_init 1 none ∈ lw_g := mg 145 rfl rfl
set_option maxRecDepth 20000 in
theorem m_ml_X2_1 : Cond.methodLink RX2 1 objectInit ∈ lw_g := mg 146 (by decide +kernel) (by decide +kernel)
set_option maxRecDepth 20000 in
theorem m_fl_X2_9 : Cond.fieldLink RX2 9 "TransferRings$Sightings" "inTick" "[I" ∈ lw_g := mg 147 (by decide +kernel) (by decide +kernel)
set_option maxRecDepth 20000 in
theorem m_fl_X2_13 : Cond.fieldLink RX2 13 "TransferRings$Sightings" "who" "[I" ∈ lw_g := mg 148 (by decide +kernel) (by decide +kernel)
set_option maxRecDepth 20000 in
theorem m_fl_X2_16 : Cond.fieldLink RX2 16 "TransferRings$Sightings" "seen" "I" ∈ lw_g := mg 149 (by decide +kernel) (by decide +kernel)
set_option maxRecDepth 20000 in
theorem m_fl_X4_165 : Cond.fieldLink RX4 165 "TransferRings$Sightings" "seen" "I" ∈ lw_g := mg 150 (by decide +kernel) (by decide +kernel)
set_option maxRecDepth 20000 in
theorem m_fl_X4_10 : Cond.fieldLink RX4 10 "TransferRings" "text" "LTransferRings$Text;" ∈ lw_g := mg 158 (by decide +kernel) (by decide +kernel)
set_option maxRecDepth 20000 in
theorem m_fl_X4_19 : Cond.fieldLink RX4 19 "TransferRings" "now" "LTransferRings$Engine;" ∈ lw_g := mg 159 (by decide +kernel) (by decide +kernel)
set_option maxRecDepth 20000 in
theorem m_fl_X4_23 : Cond.fieldLink RX4 23 "TransferRings" "trial" "LTransferRings$Engine;" ∈ lw_g := mg 160 (by decide +kernel) (by decide +kernel)
set_option maxRecDepth 20000 in
theorem m_fl_X4_29 : Cond.fieldLink RX4 29 "TransferRings" "history" "LTransferRings$History;" ∈ lw_g := mg 161 (by decide +kernel) (by decide +kernel)
set_option maxRecDepth 20000 in
theorem m_fl_X4_36 : Cond.fieldLink RX4 36 "TransferRings" "sightings" "LTransferRings$Sightings;" ∈ lw_g := mg 162 (by decide +kernel) (by decide +kernel)
set_option maxRecDepth 20000 in
theorem m_fl_X4_40 : Cond.fieldLink RX4 40 "TransferRings" "images" "[LTransferRings$Engine;" ∈ lw_g := mg 163 (by decide +kernel) (by decide +kernel)
set_option maxRecDepth 20000 in
theorem m_fl_X4_44 : Cond.fieldLink RX4 44 "TransferRings" "imageKept" "[Z" ∈ lw_g := mg 164 (by decide +kernel) (by decide +kernel)
set_option maxRecDepth 20000 in
theorem m_ac_boolean : Cond.arrayClass .boolean ∈ lw_g := mg 180 (by decide +kernel) (by decide +kernel)
set_option maxRecDepth 20000 in
theorem m_ml_L_13 : Cond.methodLink RL 13 yX4_type ∈ lw_g := mg 181 (by decide +kernel) (by decide +kernel)
set_option maxRecDepth 20000 in
theorem m_im_X4_type : Cond.instanceMethod yX4_type ∈ lw_g := mg 182 (by decide +kernel) (by decide +kernel)
set_option maxRecDepth 20000 in
theorem m_se_X4_type : Cond.selects RX4 yX4_type yX4_type ∈ lw_g := mg 183 (by decide +kernel) (by decide +kernel)
set_option maxRecDepth 20000 in
theorem m_co_X4_type : Cond.code yX4_type cX4_type 2 (some .int) ∈ lw_g := mg 184 rfl rfl
set_option maxRecDepth 20000 in
theorem m_ml_X4_48 : Cond.methodLink RX4 48 yX4_within ∈ lw_g := mg 185 (by decide +kernel) (by decide +kernel)
set_option maxRecDepth 20000 in
theorem m_st_X4_within : Cond.static yX4_within ∈ lw_g := mg 186 (by decide +kernel) (by decide +kernel)
set_option maxRecDepth 20000 in
theorem m_co_X4_within : Cond.code yX4_within cX4_within 3 (some .boolean) ∈ lw_g := mg 187 rfl rfl
set_option maxRecDepth 20000 in
theorem m_ml_X4_52 : Cond.methodLink RX4 52 yX3_append ∈ lw_g := mg 188 (by decide +kernel) (by decide +kernel)
set_option maxRecDepth 20000 in
theorem m_im_X3_append : Cond.instanceMethod yX3_append ∈ lw_g := mg 189 (by decide +kernel) (by decide +kernel)
set_option maxRecDepth 20000 in
theorem m_se_X3_append : Cond.selects RX3 yX3_append yX3_append ∈ lw_g := mg 190 (by decide +kernel) (by decide +kernel)
set_option maxRecDepth 20000 in
theorem m_co_X3_append : Cond.code yX3_append cX3_append 2 (some .boolean) ∈ lw_g := mg 191 rfl rfl
set_option maxRecDepth 20000 in
theorem m_ml_L_18 : Cond.methodLink RL 18 yX4_clear ∈ lw_g := mg 192 (by decide +kernel) (by decide +kernel)
set_option maxRecDepth 20000 in
theorem m_im_X4_clear : Cond.instanceMethod yX4_clear ∈ lw_g := mg 193 (by decide +kernel) (by decide +kernel)
set_option maxRecDepth 20000 in
theorem m_se_X4_clear : Cond.selects RX4 yX4_clear yX4_clear ∈ lw_g := mg 194 (by decide +kernel) (by decide +kernel)
set_option maxRecDepth 20000 in
theorem m_co_X4_clear : Cond.code yX4_clear cX4_clear 2 (some .int) ∈ lw_g := mg 195 rfl rfl
set_option maxRecDepth 20000 in
theorem m_ml_X4_60 : Cond.methodLink RX4 60 yX3_wipe ∈ lw_g := mg 196 (by decide +kernel) (by decide +kernel)
set_option maxRecDepth 20000 in
theorem m_im_X3_wipe : Cond.instanceMethod yX3_wipe ∈ lw_g := mg 197 (by decide +kernel) (by decide +kernel)
set_option maxRecDepth 20000 in
theorem m_se_X3_wipe : Cond.selects RX3 yX3_wipe yX3_wipe ∈ lw_g := mg 198 (by decide +kernel) (by decide +kernel)
set_option maxRecDepth 20000 in
theorem m_co_X3_wipe : Cond.code yX3_wipe cX3_wipe 1 none ∈ lw_g := mg 199 rfl rfl
set_option maxRecDepth 20000 in
theorem m_ml_L_23 : Cond.methodLink RL 23 yX4_posts ∈ lw_g := mg 200 (by decide +kernel) (by decide +kernel)
set_option maxRecDepth 20000 in
theorem m_im_X4_posts : Cond.instanceMethod yX4_posts ∈ lw_g := mg 201 (by decide +kernel) (by decide +kernel)
set_option maxRecDepth 20000 in
theorem m_se_X4_posts : Cond.selects RX4 yX4_posts yX4_posts ∈ lw_g := mg 202 (by decide +kernel) (by decide +kernel)
set_option maxRecDepth 20000 in
theorem m_co_X4_posts : Cond.code yX4_posts cX4_posts 3 (some .int) ∈ lw_g := mg 203 rfl rfl
set_option maxRecDepth 20000 in
theorem m_ml_X4_63 : Cond.methodLink RX4 63 yX3_read ∈ lw_g := mg 204 (by decide +kernel) (by decide +kernel)
set_option maxRecDepth 20000 in
theorem m_im_X3_read : Cond.instanceMethod yX3_read ∈ lw_g := mg 205 (by decide +kernel) (by decide +kernel)
set_option maxRecDepth 20000 in
theorem m_se_X3_read : Cond.selects RX3 yX3_read yX3_read ∈ lw_g := mg 206 (by decide +kernel) (by decide +kernel)
set_option maxRecDepth 20000 in
theorem m_co_X3_read : Cond.code yX3_read cX3_read 1 (some .int) ∈ lw_g := mg 207 rfl rfl
set_option maxRecDepth 20000 in
theorem m_ml_X3_29 : Cond.methodLink RX3 29 yX3_skipBlanks ∈ lw_g := mg 208 (by decide +kernel) (by decide +kernel)
set_option maxRecDepth 20000 in
theorem m_im_X3_skipBlanks : Cond.instanceMethod yX3_skipBlanks ∈ lw_g := mg 210 (by decide +kernel) (by decide +kernel)
set_option maxRecDepth 20000 in
theorem m_co_X3_skipBlanks : Cond.code yX3_skipBlanks cX3_skipBlanks 1 none ∈ lw_g := mg 211 rfl rfl
set_option maxRecDepth 20000 in
theorem m_ml_X3_32 : Cond.methodLink RX3 32 yX3_readItem ∈ lw_g := mg 212 (by decide +kernel) (by decide +kernel)
set_option maxRecDepth 20000 in
theorem m_im_X3_readItem : Cond.instanceMethod yX3_readItem ∈ lw_g := mg 214 (by decide +kernel) (by decide +kernel)
set_option maxRecDepth 20000 in
theorem m_co_X3_readItem : Cond.code yX3_readItem cX3_readItem 2 (some .boolean) ∈ lw_g := mg 215 rfl rfl
set_option maxRecDepth 20000 in
theorem m_fl_X3_36 : Cond.fieldLink RX3 36 "TransferRings$Text" "LETTER_LEAST" "[I" ∈ lw_g := mg 216 (by decide +kernel) (by decide +kernel)
set_option maxRecDepth 20000 in
theorem m_ls_LETTER_LEAST : Cond.laysStatic "TransferRings$Text" "LETTER_LEAST" "[I" ∈ lw_tbl := List.mem_of_getElem? (i := 217) (by decide +kernel)
set_option maxRecDepth 20000 in
theorem m_fl_X3_39 : Cond.fieldLink RX3 39 "TransferRings$Text" "LETTER_MOST" "[I" ∈ lw_g := mg 218 (by decide +kernel) (by decide +kernel)
set_option maxRecDepth 20000 in
theorem m_ls_LETTER_MOST : Cond.laysStatic "TransferRings$Text" "LETTER_MOST" "[I" ∈ lw_tbl := List.mem_of_getElem? (i := 219) (by decide +kernel)
set_option maxRecDepth 20000 in
theorem m_ml_X3_42 : Cond.methodLink RX3 42 yX3_readForm ∈ lw_g := mg 220 (by decide +kernel) (by decide +kernel)
set_option maxRecDepth 20000 in
theorem m_im_X3_readForm : Cond.instanceMethod yX3_readForm ∈ lw_g := mg 222 (by decide +kernel) (by decide +kernel)
set_option maxRecDepth 20000 in
theorem m_co_X3_readForm : Cond.code yX3_readForm cX3_readForm 5 (some .boolean) ∈ lw_g := mg 223 rfl rfl
set_option maxRecDepth 20000 in
theorem m_ml_X3_58 : Cond.methodLink RX3 58 yX3_readNumber ∈ lw_g := mg 224 (by decide +kernel) (by decide +kernel)
set_option maxRecDepth 20000 in
theorem m_im_X3_readNumber : Cond.instanceMethod yX3_readNumber ∈ lw_g := mg 226 (by decide +kernel) (by decide +kernel)
set_option maxRecDepth 20000 in
theorem m_co_X3_readNumber : Cond.code yX3_readNumber cX3_readNumber 8 (some .boolean) ∈ lw_g := mg 227 rfl rfl
set_option maxRecDepth 20000 in
theorem m_ml_X3_62 : Cond.methodLink RX3 62 yX3_isFigure ∈ lw_g := mg 228 (by decide +kernel) (by decide +kernel)
set_option maxRecDepth 20000 in
theorem m_st_X3_isFigure : Cond.static yX3_isFigure ∈ lw_g := mg 229 (by decide +kernel) (by decide +kernel)
set_option maxRecDepth 20000 in
theorem m_co_X3_isFigure : Cond.code yX3_isFigure cX3_isFigure 1 (some .boolean) ∈ lw_g := mg 230 rfl rfl
set_option maxRecDepth 20000 in
theorem m_mn_X3_66 : Cond.methodLinkNest RX3 66 yX4_within RX4 ∈ lw_tbl := List.mem_of_getElem? (i := 231) (by decide +kernel)
set_option maxRecDepth 20000 in
theorem m_fl_X3_46 : Cond.fieldLink RX3 46 "TransferRings$Text" "FILL_LEAST" "[I" ∈ lw_g := mg 232 (by decide +kernel) (by decide +kernel)
set_option maxRecDepth 20000 in
theorem m_ls_FILL_LEAST : Cond.laysStatic "TransferRings$Text" "FILL_LEAST" "[I" ∈ lw_tbl := List.mem_of_getElem? (i := 233) (by decide +kernel)
set_option maxRecDepth 20000 in
theorem m_fl_X3_49 : Cond.fieldLink RX3 49 "TransferRings$Text" "FILL_MOST" "[I" ∈ lw_g := mg 234 (by decide +kernel) (by decide +kernel)
set_option maxRecDepth 20000 in
theorem m_ls_FILL_MOST : Cond.laysStatic "TransferRings$Text" "FILL_MOST" "[I" ∈ lw_tbl := List.mem_of_getElem? (i := 235) (by decide +kernel)
set_option maxRecDepth 20000 in
theorem m_fl_X3_52 : Cond.fieldLink RX3 52 "TransferRings$Text" "TUNE_LEAST" "[I" ∈ lw_g := mg 236 (by decide +kernel) (by decide +kernel)
set_option maxRecDepth 20000 in
theorem m_ls_TUNE_LEAST : Cond.laysStatic "TransferRings$Text" "TUNE_LEAST" "[I" ∈ lw_tbl := List.mem_of_getElem? (i := 237) (by decide +kernel)
set_option maxRecDepth 20000 in
theorem m_fl_X3_55 : Cond.fieldLink RX3 55 "TransferRings$Text" "TUNE_MOST" "[I" ∈ lw_g := mg 238 (by decide +kernel) (by decide +kernel)
set_option maxRecDepth 20000 in
theorem m_ls_TUNE_MOST : Cond.laysStatic "TransferRings$Text" "TUNE_MOST" "[I" ∈ lw_tbl := List.mem_of_getElem? (i := 239) (by decide +kernel)
set_option maxRecDepth 20000 in
theorem m_ml_X4_67 : Cond.methodLink RX4 67 yX0_copyFrom ∈ lw_g := mg 240 (by decide +kernel) (by decide +kernel)
set_option maxRecDepth 20000 in
theorem m_im_X0_copyFrom : Cond.instanceMethod yX0_copyFrom ∈ lw_g := mg 241 (by decide +kernel) (by decide +kernel)
set_option maxRecDepth 20000 in
theorem m_se_X0_copyFrom : Cond.selects RX0 yX0_copyFrom yX0_copyFrom ∈ lw_g := mg 242 (by decide +kernel) (by decide +kernel)
set_option maxRecDepth 20000 in
theorem m_co_X0_copyFrom : Cond.code yX0_copyFrom cX0_copyFrom 2 none ∈ lw_g := mg 243 rfl rfl
set_option maxRecDepth 20000 in
theorem m_ml_X0_34 : Cond.methodLink RX0 34 arraycopyName ∈ lw_g := mg 244 (by decide +kernel) (by decide +kernel)
set_option maxRecDepth 20000 in
theorem m_st_arraycopyName : Cond.static arraycopyName ∈ lw_g := mg 245 (by decide +kernel) (by decide +kernel)
set_option maxRecDepth 20000 in
theorem m_na_arraycopyName : Cond.native arraycopyName ∈ lw_g := mg 246 (by decide +kernel) (by decide +kernel)
set_option maxRecDepth 20000 in
theorem m_ml_X4_74 : Cond.methodLink RX4 74 yX0_take ∈ lw_g := mg 247 (by decide +kernel) (by decide +kernel)
set_option maxRecDepth 20000 in
theorem m_im_X0_take : Cond.instanceMethod yX0_take ∈ lw_g := mg 248 (by decide +kernel) (by decide +kernel)
set_option maxRecDepth 20000 in
theorem m_se_X0_take : Cond.selects RX0 yX0_take yX0_take ∈ lw_g := mg 249 (by decide +kernel) (by decide +kernel)
set_option maxRecDepth 20000 in
theorem m_co_X0_take : Cond.code yX0_take cX0_take 4 (some .boolean) ∈ lw_g := mg 250 rfl rfl
set_option maxRecDepth 20000 in
theorem m_ml_X0_79 : Cond.methodLink RX0 79 yX3_number ∈ lw_g := mg 251 (by decide +kernel) (by decide +kernel)
set_option maxRecDepth 20000 in
theorem m_im_X3_number : Cond.instanceMethod yX3_number ∈ lw_g := mg 252 (by decide +kernel) (by decide +kernel)
set_option maxRecDepth 20000 in
theorem m_se_X3_number : Cond.selects RX3 yX3_number yX3_number ∈ lw_g := mg 253 (by decide +kernel) (by decide +kernel)
set_option maxRecDepth 20000 in
theorem m_co_X3_number : Cond.code yX3_number cX3_number 3 (some .int) ∈ lw_g := mg 254 rfl rfl
set_option maxRecDepth 20000 in
theorem m_ml_X0_84 : Cond.methodLink RX0 84 yX3_kind ∈ lw_g := mg 255 (by decide +kernel) (by decide +kernel)
set_option maxRecDepth 20000 in
theorem m_im_X3_kind : Cond.instanceMethod yX3_kind ∈ lw_g := mg 256 (by decide +kernel) (by decide +kernel)
set_option maxRecDepth 20000 in
theorem m_se_X3_kind : Cond.selects RX3 yX3_kind yX3_kind ∈ lw_g := mg 257 (by decide +kernel) (by decide +kernel)
set_option maxRecDepth 20000 in
theorem m_co_X3_kind : Cond.code yX3_kind cX3_kind 2 (some .int) ∈ lw_g := mg 258 rfl rfl
set_option maxRecDepth 20000 in
theorem m_ml_X0_87 : Cond.methodLink RX0 87 yX0_post ∈ lw_g := mg 259 (by decide +kernel) (by decide +kernel)
set_option maxRecDepth 20000 in
theorem m_im_X0_post : Cond.instanceMethod yX0_post ∈ lw_g := mg 261 (by decide +kernel) (by decide +kernel)
set_option maxRecDepth 20000 in
theorem m_co_X0_post : Cond.code yX0_post cX0_post 7 (some .boolean) ∈ lw_g := mg 262 rfl rfl
set_option maxRecDepth 20000 in
theorem m_ml_X0_73 : Cond.methodLink RX0 73 yX0_ofChannel ∈ lw_g := mg 263 (by decide +kernel) (by decide +kernel)
set_option maxRecDepth 20000 in
theorem m_im_X0_ofChannel : Cond.instanceMethod yX0_ofChannel ∈ lw_g := mg 264 (by decide +kernel) (by decide +kernel)
set_option maxRecDepth 20000 in
theorem m_se_X0_ofChannel : Cond.selects RX0 yX0_ofChannel yX0_ofChannel ∈ lw_g := mg 265 (by decide +kernel) (by decide +kernel)
set_option maxRecDepth 20000 in
theorem m_co_X0_ofChannel : Cond.code yX0_ofChannel cX0_ofChannel 3 (some .int) ∈ lw_g := mg 266 rfl rfl
set_option maxRecDepth 20000 in
theorem m_ml_X0_64 : Cond.methodLink RX0 64 yX0_placeOf ∈ lw_g := mg 267 (by decide +kernel) (by decide +kernel)
set_option maxRecDepth 20000 in
theorem m_st_X0_placeOf : Cond.static yX0_placeOf ∈ lw_g := mg 268 (by decide +kernel) (by decide +kernel)
set_option maxRecDepth 20000 in
theorem m_co_X0_placeOf : Cond.code yX0_placeOf cX0_placeOf 2 (some .int) ∈ lw_g := mg 269 rfl rfl
set_option maxRecDepth 20000 in
theorem m_ml_X0_67 : Cond.methodLink RX0 67 yX0_isEngines ∈ lw_g := mg 270 (by decide +kernel) (by decide +kernel)
set_option maxRecDepth 20000 in
theorem m_im_X0_isEngines : Cond.instanceMethod yX0_isEngines ∈ lw_g := mg 271 (by decide +kernel) (by decide +kernel)
set_option maxRecDepth 20000 in
theorem m_se_X0_isEngines : Cond.selects RX0 yX0_isEngines yX0_isEngines ∈ lw_g := mg 272 (by decide +kernel) (by decide +kernel)
set_option maxRecDepth 20000 in
theorem m_co_X0_isEngines : Cond.code yX0_isEngines cX0_isEngines 2 (some .boolean) ∈ lw_g := mg 273 rfl rfl
set_option maxRecDepth 20000 in
theorem m_ml_X0_40 : Cond.methodLink RX0 40 yX0_ofLetter ∈ lw_g := mg 274 (by decide +kernel) (by decide +kernel)
set_option maxRecDepth 20000 in
theorem m_im_X0_ofLetter : Cond.instanceMethod yX0_ofLetter ∈ lw_g := mg 275 (by decide +kernel) (by decide +kernel)
set_option maxRecDepth 20000 in
theorem m_se_X0_ofLetter : Cond.selects RX0 yX0_ofLetter yX0_ofLetter ∈ lw_g := mg 276 (by decide +kernel) (by decide +kernel)
set_option maxRecDepth 20000 in
theorem m_co_X0_ofLetter : Cond.code yX0_ofLetter cX0_ofLetter 3 (some .int) ∈ lw_g := mg 277 rfl rfl
set_option maxRecDepth 20000 in
theorem m_ml_X0_95 : Cond.methodLink RX0 95 yX0_setLetter ∈ lw_g := mg 278 (by decide +kernel) (by decide +kernel)
set_option maxRecDepth 20000 in
theorem m_im_X0_setLetter : Cond.instanceMethod yX0_setLetter ∈ lw_g := mg 279 (by decide +kernel) (by decide +kernel)
set_option maxRecDepth 20000 in
theorem m_se_X0_setLetter : Cond.selects RX0 yX0_setLetter yX0_setLetter ∈ lw_g := mg 280 (by decide +kernel) (by decide +kernel)
set_option maxRecDepth 20000 in
theorem m_co_X0_setLetter : Cond.code yX0_setLetter cX0_setLetter 4 none ∈ lw_g := mg 281 rfl rfl
set_option maxRecDepth 20000 in
theorem m_ml_X0_49 : Cond.methodLink RX0 49 yX0_unitsOf ∈ lw_g := mg 282 (by decide +kernel) (by decide +kernel)
set_option maxRecDepth 20000 in
theorem m_im_X0_unitsOf : Cond.instanceMethod yX0_unitsOf ∈ lw_g := mg 283 (by decide +kernel) (by decide +kernel)
set_option maxRecDepth 20000 in
theorem m_se_X0_unitsOf : Cond.selects RX0 yX0_unitsOf yX0_unitsOf ∈ lw_g := mg 284 (by decide +kernel) (by decide +kernel)
set_option maxRecDepth 20000 in
theorem m_co_X0_unitsOf : Cond.code yX0_unitsOf cX0_unitsOf 2 (some .int) ∈ lw_g := mg 285 rfl rfl
set_option maxRecDepth 20000 in
theorem m_ml_X0_98 : Cond.methodLink RX0 98 yX0_slotBehind ∈ lw_g := mg 286 (by decide +kernel) (by decide +kernel)
set_option maxRecDepth 20000 in
theorem m_st_X0_slotBehind : Cond.static yX0_slotBehind ∈ lw_g := mg 287 (by decide +kernel) (by decide +kernel)
set_option maxRecDepth 20000 in
theorem m_co_X0_slotBehind : Cond.code yX0_slotBehind cX0_slotBehind 1 (some .int) ∈ lw_g := mg 288 rfl rfl
set_option maxRecDepth 20000 in
theorem m_ml_X0_91 : Cond.methodLink RX0 91 yX0_setChannel ∈ lw_g := mg 289 (by decide +kernel) (by decide +kernel)
set_option maxRecDepth 20000 in
theorem m_im_X0_setChannel : Cond.instanceMethod yX0_setChannel ∈ lw_g := mg 290 (by decide +kernel) (by decide +kernel)
set_option maxRecDepth 20000 in
theorem m_se_X0_setChannel : Cond.selects RX0 yX0_setChannel yX0_setChannel ∈ lw_g := mg 291 (by decide +kernel) (by decide +kernel)
set_option maxRecDepth 20000 in
theorem m_co_X0_setChannel : Cond.code yX0_setChannel cX0_setChannel 4 none ∈ lw_g := mg 292 rfl rfl
set_option maxRecDepth 20000 in
theorem m_ml_X4_78 : Cond.methodLink RX4 78 yX1_remember ∈ lw_g := mg 293 (by decide +kernel) (by decide +kernel)
set_option maxRecDepth 20000 in
theorem m_im_X1_remember : Cond.instanceMethod yX1_remember ∈ lw_g := mg 294 (by decide +kernel) (by decide +kernel)
set_option maxRecDepth 20000 in
theorem m_se_X1_remember : Cond.selects RX1 yX1_remember yX1_remember ∈ lw_g := mg 295 (by decide +kernel) (by decide +kernel)
set_option maxRecDepth 20000 in
theorem m_co_X1_remember : Cond.code yX1_remember cX1_remember 2 none ∈ lw_g := mg 296 rfl rfl
set_option maxRecDepth 20000 in
theorem m_ml_X1_23 : Cond.methodLink RX1 23 yX0_copyFrom ∈ lw_g := mg 297 (by decide +kernel) (by decide +kernel)
set_option maxRecDepth 20000 in
theorem m_ml_X1_27 : Cond.methodLink RX1 27 yJ9_min_7cf53 ∈ lw_g := mg 298 (by decide +kernel) (by decide +kernel)
set_option maxRecDepth 20000 in
theorem m_st_J9_min_7cf53 : Cond.static yJ9_min_7cf53 ∈ lw_g := mg 299 (by decide +kernel) (by decide +kernel)
set_option maxRecDepth 20000 in
theorem m_co_J9_min_7cf53 : Cond.code yJ9_min_7cf53 cJ9_min_7cf53 2 (some .int) ∈ lw_g := mg 300 rfl rfl
set_option maxRecDepth 20000 in
theorem m_ml_L_27 : Cond.methodLink RL 27 yX4_ticks ∈ lw_g := mg 301 (by decide +kernel) (by decide +kernel)
set_option maxRecDepth 20000 in
theorem m_im_X4_ticks : Cond.instanceMethod yX4_ticks ∈ lw_g := mg 302 (by decide +kernel) (by decide +kernel)
set_option maxRecDepth 20000 in
theorem m_se_X4_ticks : Cond.selects RX4 yX4_ticks yX4_ticks ∈ lw_g := mg 303 (by decide +kernel) (by decide +kernel)
set_option maxRecDepth 20000 in
theorem m_co_X4_ticks : Cond.code yX4_ticks cX4_ticks 4 (some .int) ∈ lw_g := mg 304 rfl rfl
set_option maxRecDepth 20000 in
theorem m_ml_X4_81 : Cond.methodLink RX4 81 yX0_tick ∈ lw_g := mg 305 (by decide +kernel) (by decide +kernel)
set_option maxRecDepth 20000 in
theorem m_im_X0_tick : Cond.instanceMethod yX0_tick ∈ lw_g := mg 306 (by decide +kernel) (by decide +kernel)
set_option maxRecDepth 20000 in
theorem m_se_X0_tick : Cond.selects RX0 yX0_tick yX0_tick ∈ lw_g := mg 307 (by decide +kernel) (by decide +kernel)
set_option maxRecDepth 20000 in
theorem m_co_X0_tick : Cond.code yX0_tick cX0_tick 3 (some .int) ∈ lw_g := mg 308 rfl rfl
set_option maxRecDepth 20000 in
theorem m_ml_X0_101 : Cond.methodLink RX0 101 yX0_writeBack ∈ lw_g := mg 309 (by decide +kernel) (by decide +kernel)
set_option maxRecDepth 20000 in
theorem m_im_X0_writeBack : Cond.instanceMethod yX0_writeBack ∈ lw_g := mg 311 (by decide +kernel) (by decide +kernel)
set_option maxRecDepth 20000 in
theorem m_co_X0_writeBack : Cond.code yX0_writeBack cX0_writeBack 4 none ∈ lw_g := mg 312 rfl rfl
set_option maxRecDepth 20000 in
theorem m_ml_X0_113 : Cond.methodLink RX0 113 yX0_addOneTo ∈ lw_g := mg 313 (by decide +kernel) (by decide +kernel)
set_option maxRecDepth 20000 in
theorem m_im_X0_addOneTo : Cond.instanceMethod yX0_addOneTo ∈ lw_g := mg 314 (by decide +kernel) (by decide +kernel)
set_option maxRecDepth 20000 in
theorem m_se_X0_addOneTo : Cond.selects RX0 yX0_addOneTo yX0_addOneTo ∈ lw_g := mg 315 (by decide +kernel) (by decide +kernel)
set_option maxRecDepth 20000 in
theorem m_co_X0_addOneTo : Cond.code yX0_addOneTo cX0_addOneTo 3 none ∈ lw_g := mg 316 rfl rfl
set_option maxRecDepth 20000 in
theorem m_ml_X0_105 : Cond.methodLink RX0 105 yX0_nextToGrant ∈ lw_g := mg 317 (by decide +kernel) (by decide +kernel)
set_option maxRecDepth 20000 in
theorem m_im_X0_nextToGrant : Cond.instanceMethod yX0_nextToGrant ∈ lw_g := mg 319 (by decide +kernel) (by decide +kernel)
set_option maxRecDepth 20000 in
theorem m_co_X0_nextToGrant : Cond.code yX0_nextToGrant cX0_nextToGrant 4 (some .int) ∈ lw_g := mg 320 rfl rfl
set_option maxRecDepth 20000 in
theorem m_ml_X0_117 : Cond.methodLink RX0 117 yX0_isReady ∈ lw_g := mg 321 (by decide +kernel) (by decide +kernel)
set_option maxRecDepth 20000 in
theorem m_im_X0_isReady : Cond.instanceMethod yX0_isReady ∈ lw_g := mg 322 (by decide +kernel) (by decide +kernel)
set_option maxRecDepth 20000 in
theorem m_se_X0_isReady : Cond.selects RX0 yX0_isReady yX0_isReady ∈ lw_g := mg 323 (by decide +kernel) (by decide +kernel)
set_option maxRecDepth 20000 in
theorem m_co_X0_isReady : Cond.code yX0_isReady cX0_isReady 3 (some .boolean) ∈ lw_g := mg 324 rfl rfl
set_option maxRecDepth 20000 in
theorem m_ml_X0_76 : Cond.methodLink RX0 76 yX0_presentOf ∈ lw_g := mg 325 (by decide +kernel) (by decide +kernel)
set_option maxRecDepth 20000 in
theorem m_im_X0_presentOf : Cond.instanceMethod yX0_presentOf ∈ lw_g := mg 326 (by decide +kernel) (by decide +kernel)
set_option maxRecDepth 20000 in
theorem m_se_X0_presentOf : Cond.selects RX0 yX0_presentOf yX0_presentOf ∈ lw_g := mg 327 (by decide +kernel) (by decide +kernel)
set_option maxRecDepth 20000 in
theorem m_co_X0_presentOf : Cond.code yX0_presentOf cX0_presentOf 3 (some .int) ∈ lw_g := mg 328 rfl rfl
set_option maxRecDepth 20000 in
theorem m_ml_X0_57 : Cond.methodLink RX0 57 yX0_isToCarry ∈ lw_g := mg 329 (by decide +kernel) (by decide +kernel)
set_option maxRecDepth 20000 in
theorem m_im_X0_isToCarry : Cond.instanceMethod yX0_isToCarry ∈ lw_g := mg 330 (by decide +kernel) (by decide +kernel)
set_option maxRecDepth 20000 in
theorem m_se_X0_isToCarry : Cond.selects RX0 yX0_isToCarry yX0_isToCarry ∈ lw_g := mg 331 (by decide +kernel) (by decide +kernel)
set_option maxRecDepth 20000 in
theorem m_co_X0_isToCarry : Cond.code yX0_isToCarry cX0_isToCarry 3 (some .boolean) ∈ lw_g := mg 332 rfl rfl
set_option maxRecDepth 20000 in
theorem m_ml_X0_109 : Cond.methodLink RX0 109 yX0_grant ∈ lw_g := mg 333 (by decide +kernel) (by decide +kernel)
set_option maxRecDepth 20000 in
theorem m_im_X0_grant : Cond.instanceMethod yX0_grant ∈ lw_g := mg 335 (by decide +kernel) (by decide +kernel)
set_option maxRecDepth 20000 in
theorem m_co_X0_grant : Cond.code yX0_grant cX0_grant 6 none ∈ lw_g := mg 336 rfl rfl
set_option maxRecDepth 20000 in
theorem m_ml_X0_120 : Cond.methodLink RX0 120 yJ9_min_7cf53 ∈ lw_g := mg 337 (by decide +kernel) (by decide +kernel)
set_option maxRecDepth 20000 in
theorem m_ml_X0_123 : Cond.methodLink RX0 123 yX0_carry ∈ lw_g := mg 338 (by decide +kernel) (by decide +kernel)
set_option maxRecDepth 20000 in
theorem m_im_X0_carry : Cond.instanceMethod yX0_carry ∈ lw_g := mg 340 (by decide +kernel) (by decide +kernel)
set_option maxRecDepth 20000 in
theorem m_co_X0_carry : Cond.code yX0_carry cX0_carry 5 none ∈ lw_g := mg 341 rfl rfl
set_option maxRecDepth 20000 in
theorem m_ml_X0_53 : Cond.methodLink RX0 53 yX0_addressOf ∈ lw_g := mg 342 (by decide +kernel) (by decide +kernel)
set_option maxRecDepth 20000 in
theorem m_im_X0_addressOf : Cond.instanceMethod yX0_addressOf ∈ lw_g := mg 343 (by decide +kernel) (by decide +kernel)
set_option maxRecDepth 20000 in
theorem m_se_X0_addressOf : Cond.selects RX0 yX0_addressOf yX0_addressOf ∈ lw_g := mg 344 (by decide +kernel) (by decide +kernel)
set_option maxRecDepth 20000 in
theorem m_co_X0_addressOf : Cond.code yX0_addressOf cX0_addressOf 8 (some .int) ∈ lw_g := mg 345 rfl rfl
set_option maxRecDepth 20000 in
theorem m_ml_X0_44 : Cond.methodLink RX0 44 yJ9_floorMod_7cf53 ∈ lw_g := mg 346 (by decide +kernel) (by decide +kernel)
set_option maxRecDepth 20000 in
theorem m_st_J9_floorMod_7cf53 : Cond.static yJ9_floorMod_7cf53 ∈ lw_g := mg 347 (by decide +kernel) (by decide +kernel)
set_option maxRecDepth 20000 in
theorem m_co_J9_floorMod_7cf53 : Cond.code yJ9_floorMod_7cf53 cJ9_floorMod_7cf53 3 (some .int) ∈ lw_g := mg 348 rfl rfl
set_option maxRecDepth 20000 in
theorem m_ml_X0_126 : Cond.methodLink RX0 126 yX0_letWait ∈ lw_g := mg 349 (by decide +kernel) (by decide +kernel)
set_option maxRecDepth 20000 in
theorem m_im_X0_letWait : Cond.instanceMethod yX0_letWait ∈ lw_g := mg 351 (by decide +kernel) (by decide +kernel)
set_option maxRecDepth 20000 in
theorem m_co_X0_letWait : Cond.code yX0_letWait cX0_letWait 3 none ∈ lw_g := mg 352 rfl rfl
set_option maxRecDepth 20000 in
theorem m_ml_L_31 : Cond.methodLink RL 31 yX4_cancels ∈ lw_g := mg 353 (by decide +kernel) (by decide +kernel)
set_option maxRecDepth 20000 in
theorem m_im_X4_cancels : Cond.instanceMethod yX4_cancels ∈ lw_g := mg 354 (by decide +kernel) (by decide +kernel)
set_option maxRecDepth 20000 in
theorem m_se_X4_cancels : Cond.selects RX4 yX4_cancels yX4_cancels ∈ lw_g := mg 355 (by decide +kernel) (by decide +kernel)
set_option maxRecDepth 20000 in
theorem m_co_X4_cancels : Cond.code yX4_cancels cX4_cancels 2 (some .int) ∈ lw_g := mg 356 rfl rfl
set_option maxRecDepth 20000 in
theorem m_ml_X4_85 : Cond.methodLink RX4 85 yX4_isChannel ∈ lw_g := mg 357 (by decide +kernel) (by decide +kernel)
set_option maxRecDepth 20000 in
theorem m_st_X4_isChannel : Cond.static yX4_isChannel ∈ lw_g := mg 358 (by decide +kernel) (by decide +kernel)
set_option maxRecDepth 20000 in
theorem m_co_X4_isChannel : Cond.code yX4_isChannel cX4_isChannel 1 (some .boolean) ∈ lw_g := mg 359 rfl rfl
set_option maxRecDepth 20000 in
theorem m_ml_X4_88 : Cond.methodLink RX4 88 yX0_presentOf ∈ lw_g := mg 360 (by decide +kernel) (by decide +kernel)
set_option maxRecDepth 20000 in
theorem m_ml_X4_92 : Cond.methodLink RX4 92 yX0_cancel ∈ lw_g := mg 361 (by decide +kernel) (by decide +kernel)
set_option maxRecDepth 20000 in
theorem m_im_X0_cancel : Cond.instanceMethod yX0_cancel ∈ lw_g := mg 362 (by decide +kernel) (by decide +kernel)
set_option maxRecDepth 20000 in
theorem m_se_X0_cancel : Cond.selects RX0 yX0_cancel yX0_cancel ∈ lw_g := mg 363 (by decide +kernel) (by decide +kernel)
set_option maxRecDepth 20000 in
theorem m_co_X0_cancel : Cond.code yX0_cancel cX0_cancel 7 (some .int) ∈ lw_g := mg 364 rfl rfl
set_option maxRecDepth 20000 in
theorem m_ml_X0_129 : Cond.methodLink RX0 129 yX0_writeBackAllOf ∈ lw_g := mg 365 (by decide +kernel) (by decide +kernel)
set_option maxRecDepth 20000 in
theorem m_im_X0_writeBackAllOf : Cond.instanceMethod yX0_writeBackAllOf ∈ lw_g := mg 367 (by decide +kernel) (by decide +kernel)
set_option maxRecDepth 20000 in
theorem m_co_X0_writeBackAllOf : Cond.code yX0_writeBackAllOf cX0_writeBackAllOf 4 none ∈ lw_g := mg 368 rfl rfl
set_option maxRecDepth 20000 in
theorem m_ml_L_35 : Cond.methodLink RL 35 yX4_switches ∈ lw_g := mg 369 (by decide +kernel) (by decide +kernel)
set_option maxRecDepth 20000 in
theorem m_im_X4_switches : Cond.instanceMethod yX4_switches ∈ lw_g := mg 370 (by decide +kernel) (by decide +kernel)
set_option maxRecDepth 20000 in
theorem m_se_X4_switches : Cond.selects RX4 yX4_switches yX4_switches ∈ lw_g := mg 371 (by decide +kernel) (by decide +kernel)
set_option maxRecDepth 20000 in
theorem m_co_X4_switches : Cond.code yX4_switches cX4_switches 3 (some .int) ∈ lw_g := mg 372 rfl rfl
set_option maxRecDepth 20000 in
theorem m_ml_X4_95 : Cond.methodLink RX4 95 yX0_ofChannel ∈ lw_g := mg 373 (by decide +kernel) (by decide +kernel)
set_option maxRecDepth 20000 in
theorem m_ml_X4_99 : Cond.methodLink RX4 99 yX0_setChannel ∈ lw_g := mg 374 (by decide +kernel) (by decide +kernel)
set_option maxRecDepth 20000 in
theorem m_ml_L_39 : Cond.methodLink RL 39 yX4_tunes ∈ lw_g := mg 375 (by decide +kernel) (by decide +kernel)
set_option maxRecDepth 20000 in
theorem m_im_X4_tunes : Cond.instanceMethod yX4_tunes ∈ lw_g := mg 376 (by decide +kernel) (by decide +kernel)
set_option maxRecDepth 20000 in
theorem m_se_X4_tunes : Cond.selects RX4 yX4_tunes yX4_tunes ∈ lw_g := mg 377 (by decide +kernel) (by decide +kernel)
set_option maxRecDepth 20000 in
theorem m_co_X4_tunes : Cond.code yX4_tunes cX4_tunes 4 (some .int) ∈ lw_g := mg 378 rfl rfl
set_option maxRecDepth 20000 in
theorem m_ml_L_44 : Cond.methodLink RL 44 yX4_undo ∈ lw_g := mg 379 (by decide +kernel) (by decide +kernel)
set_option maxRecDepth 20000 in
theorem m_im_X4_undo : Cond.instanceMethod yX4_undo ∈ lw_g := mg 380 (by decide +kernel) (by decide +kernel)
set_option maxRecDepth 20000 in
theorem m_se_X4_undo : Cond.selects RX4 yX4_undo yX4_undo ∈ lw_g := mg 381 (by decide +kernel) (by decide +kernel)
set_option maxRecDepth 20000 in
theorem m_co_X4_undo : Cond.code yX4_undo cX4_undo 1 (some .int) ∈ lw_g := mg 382 rfl rfl
set_option maxRecDepth 20000 in
theorem m_ml_X4_103 : Cond.methodLink RX4 103 yX1_restore ∈ lw_g := mg 383 (by decide +kernel) (by decide +kernel)
set_option maxRecDepth 20000 in
theorem m_im_X1_restore : Cond.instanceMethod yX1_restore ∈ lw_g := mg 384 (by decide +kernel) (by decide +kernel)
set_option maxRecDepth 20000 in
theorem m_se_X1_restore : Cond.selects RX1 yX1_restore yX1_restore ∈ lw_g := mg 385 (by decide +kernel) (by decide +kernel)
set_option maxRecDepth 20000 in
theorem m_co_X1_restore : Cond.code yX1_restore cX1_restore 2 (some .boolean) ∈ lw_g := mg 386 rfl rfl
set_option maxRecDepth 20000 in
theorem m_ml_L_48 : Cond.methodLink RL 48 yX4_at ∈ lw_g := mg 387 (by decide +kernel) (by decide +kernel)
set_option maxRecDepth 20000 in
theorem m_im_X4_at : Cond.instanceMethod yX4_at ∈ lw_g := mg 388 (by decide +kernel) (by decide +kernel)
set_option maxRecDepth 20000 in
theorem m_se_X4_at : Cond.selects RX4 yX4_at yX4_at ∈ lw_g := mg 389 (by decide +kernel) (by decide +kernel)
set_option maxRecDepth 20000 in
theorem m_co_X4_at : Cond.code yX4_at cX4_at 2 (some .int) ∈ lw_g := mg 390 rfl rfl
set_option maxRecDepth 20000 in
theorem m_ml_L_52 : Cond.methodLink RL 52 yX4_channel ∈ lw_g := mg 391 (by decide +kernel) (by decide +kernel)
set_option maxRecDepth 20000 in
theorem m_im_X4_channel : Cond.instanceMethod yX4_channel ∈ lw_g := mg 392 (by decide +kernel) (by decide +kernel)
set_option maxRecDepth 20000 in
theorem m_se_X4_channel : Cond.selects RX4 yX4_channel yX4_channel ∈ lw_g := mg 393 (by decide +kernel) (by decide +kernel)
set_option maxRecDepth 20000 in
theorem m_co_X4_channel : Cond.code yX4_channel cX4_channel 3 (some .int) ∈ lw_g := mg 394 rfl rfl
set_option maxRecDepth 20000 in
theorem m_ml_X4_114 : Cond.methodLink RX4 114 yX4_presentResidue ∈ lw_g := mg 395 (by decide +kernel) (by decide +kernel)
set_option maxRecDepth 20000 in
theorem m_im_X4_presentResidue : Cond.instanceMethod yX4_presentResidue ∈ lw_g := mg 397 (by decide +kernel) (by decide +kernel)
set_option maxRecDepth 20000 in
theorem m_co_X4_presentResidue : Cond.code yX4_presentResidue cX4_presentResidue 3 (some .int) ∈ lw_g := mg 398 rfl rfl
set_option maxRecDepth 20000 in
theorem m_ml_X4_130 : Cond.methodLink RX4 130 yX0_ofLetter ∈ lw_g := mg 399 (by decide +kernel) (by decide +kernel)
set_option maxRecDepth 20000 in
theorem m_ml_X4_117 : Cond.methodLink RX4 117 yX0_isReady ∈ lw_g := mg 400 (by decide +kernel) (by decide +kernel)
set_option maxRecDepth 20000 in
theorem m_ml_L_57 : Cond.methodLink RL 57 yX4_slot ∈ lw_g := mg 401 (by decide +kernel) (by decide +kernel)
set_option maxRecDepth 20000 in
theorem m_im_X4_slot : Cond.instanceMethod yX4_slot ∈ lw_g := mg 402 (by decide +kernel) (by decide +kernel)
set_option maxRecDepth 20000 in
theorem m_se_X4_slot : Cond.selects RX4 yX4_slot yX4_slot ∈ lw_g := mg 403 (by decide +kernel) (by decide +kernel)
set_option maxRecDepth 20000 in
theorem m_co_X4_slot : Cond.code yX4_slot cX4_slot 5 (some .int) ∈ lw_g := mg 404 rfl rfl
set_option maxRecDepth 20000 in
theorem m_ml_X4_120 : Cond.methodLink RX4 120 yX4_isSlot ∈ lw_g := mg 405 (by decide +kernel) (by decide +kernel)
set_option maxRecDepth 20000 in
theorem m_st_X4_isSlot : Cond.static yX4_isSlot ∈ lw_g := mg 406 (by decide +kernel) (by decide +kernel)
set_option maxRecDepth 20000 in
theorem m_co_X4_isSlot : Cond.code yX4_isSlot cX4_isSlot 2 (some .boolean) ∈ lw_g := mg 407 rfl rfl
set_option maxRecDepth 20000 in
theorem m_ml_X4_124 : Cond.methodLink RX4 124 yX0_placeOf ∈ lw_g := mg 408 (by decide +kernel) (by decide +kernel)
set_option maxRecDepth 20000 in
theorem m_ml_X4_127 : Cond.methodLink RX4 127 yX0_hasLetter ∈ lw_g := mg 409 (by decide +kernel) (by decide +kernel)
set_option maxRecDepth 20000 in
theorem m_im_X0_hasLetter : Cond.instanceMethod yX0_hasLetter ∈ lw_g := mg 410 (by decide +kernel) (by decide +kernel)
set_option maxRecDepth 20000 in
theorem m_se_X0_hasLetter : Cond.selects RX0 yX0_hasLetter yX0_hasLetter ∈ lw_g := mg 411 (by decide +kernel) (by decide +kernel)
set_option maxRecDepth 20000 in
theorem m_co_X0_hasLetter : Cond.code yX0_hasLetter cX0_hasLetter 2 (some .boolean) ∈ lw_g := mg 412 rfl rfl
set_option maxRecDepth 20000 in
theorem m_ml_X4_133 : Cond.methodLink RX4 133 yX0_unitsOf ∈ lw_g := mg 413 (by decide +kernel) (by decide +kernel)
set_option maxRecDepth 20000 in
theorem m_ml_L_61 : Cond.methodLink RL 61 yX4_unit ∈ lw_g := mg 414 (by decide +kernel) (by decide +kernel)
set_option maxRecDepth 20000 in
theorem m_im_X4_unit : Cond.instanceMethod yX4_unit ∈ lw_g := mg 415 (by decide +kernel) (by decide +kernel)
set_option maxRecDepth 20000 in
theorem m_se_X4_unit : Cond.selects RX4 yX4_unit yX4_unit ∈ lw_g := mg 416 (by decide +kernel) (by decide +kernel)
set_option maxRecDepth 20000 in
theorem m_co_X4_unit : Cond.code yX4_unit cX4_unit 6 (some .int) ∈ lw_g := mg 417 rfl rfl
set_option maxRecDepth 20000 in
theorem m_ml_X4_136 : Cond.methodLink RX4 136 yX0_addressOf ∈ lw_g := mg 418 (by decide +kernel) (by decide +kernel)
set_option maxRecDepth 20000 in
theorem m_ml_L_66 : Cond.methodLink RL 66 yX4_waiting ∈ lw_g := mg 419 (by decide +kernel) (by decide +kernel)
set_option maxRecDepth 20000 in
theorem m_im_X4_waiting : Cond.instanceMethod yX4_waiting ∈ lw_g := mg 420 (by decide +kernel) (by decide +kernel)
set_option maxRecDepth 20000 in
theorem m_se_X4_waiting : Cond.selects RX4 yX4_waiting yX4_waiting ∈ lw_g := mg 421 (by decide +kernel) (by decide +kernel)
set_option maxRecDepth 20000 in
theorem m_co_X4_waiting : Cond.code yX4_waiting cX4_waiting 3 (some .int) ∈ lw_g := mg 422 rfl rfl
set_option maxRecDepth 20000 in
theorem m_ml_L_70 : Cond.methodLink RL 70 yX4_both ∈ lw_g := mg 423 (by decide +kernel) (by decide +kernel)
set_option maxRecDepth 20000 in
theorem m_im_X4_both : Cond.instanceMethod yX4_both ∈ lw_g := mg 424 (by decide +kernel) (by decide +kernel)
set_option maxRecDepth 20000 in
theorem m_se_X4_both : Cond.selects RX4 yX4_both yX4_both ∈ lw_g := mg 425 (by decide +kernel) (by decide +kernel)
set_option maxRecDepth 20000 in
theorem m_co_X4_both : Cond.code yX4_both cX4_both 7 (some .int) ∈ lw_g := mg 426 rfl rfl
set_option maxRecDepth 20000 in
theorem m_ml_X4_146 : Cond.methodLink RX4 146 yX0_writtenBy ∈ lw_g := mg 427 (by decide +kernel) (by decide +kernel)
set_option maxRecDepth 20000 in
theorem m_im_X0_writtenBy : Cond.instanceMethod yX0_writtenBy ∈ lw_g := mg 428 (by decide +kernel) (by decide +kernel)
set_option maxRecDepth 20000 in
theorem m_se_X0_writtenBy : Cond.selects RX0 yX0_writtenBy yX0_writtenBy ∈ lw_g := mg 429 (by decide +kernel) (by decide +kernel)
set_option maxRecDepth 20000 in
theorem m_co_X0_writtenBy : Cond.code yX0_writtenBy cX0_writtenBy 6 (some .long) ∈ lw_g := mg 430 rfl rfl
set_option maxRecDepth 20000 in
theorem m_ml_X4_150 : Cond.methodLink RX4 150 yJ13_bitCount_95d88 ∈ lw_g := mg 431 (by decide +kernel) (by decide +kernel)
set_option maxRecDepth 20000 in
theorem m_st_J13_bitCount_95d88 : Cond.static yJ13_bitCount_95d88 ∈ lw_g := mg 432 (by decide +kernel) (by decide +kernel)
set_option maxRecDepth 20000 in
theorem m_co_J13_bitCount_95d88 : Cond.code yJ13_bitCount_95d88 cJ13_bitCount_95d88 2 (some .int) ∈ lw_g := mg 433 rfl rfl
set_option maxRecDepth 20000 in
theorem m_kl_314 : Cond.constantLong RJ13 314 6148914691236517205 ∈ lw_g := mg 434 (by decide +kernel) (by decide +kernel)
set_option maxRecDepth 20000 in
theorem m_kl_316 : Cond.constantLong RJ13 316 3689348814741910323 ∈ lw_g := mg 435 (by decide +kernel) (by decide +kernel)
set_option maxRecDepth 20000 in
theorem m_kl_318 : Cond.constantLong RJ13 318 1085102592571150095 ∈ lw_g := mg 436 (by decide +kernel) (by decide +kernel)
set_option maxRecDepth 20000 in
theorem m_ml_L_74 : Cond.methodLink RL 74 yX4_over ∈ lw_g := mg 437 (by decide +kernel) (by decide +kernel)
set_option maxRecDepth 20000 in
theorem m_im_X4_over : Cond.instanceMethod yX4_over ∈ lw_g := mg 438 (by decide +kernel) (by decide +kernel)
set_option maxRecDepth 20000 in
theorem m_se_X4_over : Cond.selects RX4 yX4_over yX4_over ∈ lw_g := mg 439 (by decide +kernel) (by decide +kernel)
set_option maxRecDepth 20000 in
theorem m_co_X4_over : Cond.code yX4_over cX4_over 2 (some .int) ∈ lw_g := mg 440 rfl rfl
set_option maxRecDepth 20000 in
theorem m_ml_X4_156 : Cond.methodLink RX4 156 yX4_ticksUntilOver ∈ lw_g := mg 441 (by decide +kernel) (by decide +kernel)
set_option maxRecDepth 20000 in
theorem m_im_X4_ticksUntilOver : Cond.instanceMethod yX4_ticksUntilOver ∈ lw_g := mg 443 (by decide +kernel) (by decide +kernel)
set_option maxRecDepth 20000 in
theorem m_co_X4_ticksUntilOver : Cond.code yX4_ticksUntilOver cX4_ticksUntilOver 6 (some .int) ∈ lw_g := mg 444 rfl rfl
set_option maxRecDepth 20000 in
theorem m_ml_X4_186 : Cond.methodLink RX4 186 yX0_engineLettersOf ∈ lw_g := mg 445 (by decide +kernel) (by decide +kernel)
set_option maxRecDepth 20000 in
theorem m_im_X0_engineLettersOf : Cond.instanceMethod yX0_engineLettersOf ∈ lw_g := mg 446 (by decide +kernel) (by decide +kernel)
set_option maxRecDepth 20000 in
theorem m_se_X0_engineLettersOf : Cond.selects RX0 yX0_engineLettersOf yX0_engineLettersOf ∈ lw_g := mg 447 (by decide +kernel) (by decide +kernel)
set_option maxRecDepth 20000 in
theorem m_co_X0_engineLettersOf : Cond.code yX0_engineLettersOf cX0_engineLettersOf 4 (some .int) ∈ lw_g := mg 448 rfl rfl
set_option maxRecDepth 20000 in
theorem m_ml_L_78 : Cond.methodLink RL 78 yX4_lands ∈ lw_g := mg 449 (by decide +kernel) (by decide +kernel)
set_option maxRecDepth 20000 in
theorem m_im_X4_lands : Cond.instanceMethod yX4_lands ∈ lw_g := mg 450 (by decide +kernel) (by decide +kernel)
set_option maxRecDepth 20000 in
theorem m_se_X4_lands : Cond.selects RX4 yX4_lands yX4_lands ∈ lw_g := mg 451 (by decide +kernel) (by decide +kernel)
set_option maxRecDepth 20000 in
theorem m_co_X4_lands : Cond.code yX4_lands cX4_lands 2 (some .int) ∈ lw_g := mg 452 rfl rfl
set_option maxRecDepth 20000 in
theorem m_ml_X4_159 : Cond.methodLink RX4 159 yX0_unitsBoundFor ∈ lw_g := mg 453 (by decide +kernel) (by decide +kernel)
set_option maxRecDepth 20000 in
theorem m_im_X0_unitsBoundFor : Cond.instanceMethod yX0_unitsBoundFor ∈ lw_g := mg 454 (by decide +kernel) (by decide +kernel)
set_option maxRecDepth 20000 in
theorem m_se_X0_unitsBoundFor : Cond.selects RX0 yX0_unitsBoundFor yX0_unitsBoundFor ∈ lw_g := mg 455 (by decide +kernel) (by decide +kernel)
set_option maxRecDepth 20000 in
theorem m_co_X0_unitsBoundFor : Cond.code yX0_unitsBoundFor cX0_unitsBoundFor 4 (some .int) ∈ lw_g := mg 456 rfl rfl
set_option maxRecDepth 20000 in
theorem m_ml_X0_61 : Cond.methodLink RX0 61 yX0_uncarriedBoundFor ∈ lw_g := mg 457 (by decide +kernel) (by decide +kernel)
set_option maxRecDepth 20000 in
theorem m_im_X0_uncarriedBoundFor : Cond.instanceMethod yX0_uncarriedBoundFor ∈ lw_g := mg 459 (by decide +kernel) (by decide +kernel)
set_option maxRecDepth 20000 in
theorem m_co_X0_uncarriedBoundFor : Cond.code yX0_uncarriedBoundFor cX0_uncarriedBoundFor 6 (some .int) ∈ lw_g := mg 460 rfl rfl
set_option maxRecDepth 20000 in
theorem m_ml_L_82 : Cond.methodLink RL 82 yX4_enough ∈ lw_g := mg 461 (by decide +kernel) (by decide +kernel)
set_option maxRecDepth 20000 in
theorem m_im_X4_enough : Cond.instanceMethod yX4_enough ∈ lw_g := mg 462 (by decide +kernel) (by decide +kernel)
set_option maxRecDepth 20000 in
theorem m_se_X4_enough : Cond.selects RX4 yX4_enough yX4_enough ∈ lw_g := mg 463 (by decide +kernel) (by decide +kernel)
set_option maxRecDepth 20000 in
theorem m_co_X4_enough : Cond.code yX4_enough cX4_enough 4 (some .int) ∈ lw_g := mg 464 rfl rfl
set_option maxRecDepth 20000 in
theorem m_ml_L_86 : Cond.methodLink RL 86 yX4_granted ∈ lw_g := mg 465 (by decide +kernel) (by decide +kernel)
set_option maxRecDepth 20000 in
theorem m_im_X4_granted : Cond.instanceMethod yX4_granted ∈ lw_g := mg 466 (by decide +kernel) (by decide +kernel)
set_option maxRecDepth 20000 in
theorem m_se_X4_granted : Cond.selects RX4 yX4_granted yX4_granted ∈ lw_g := mg 467 (by decide +kernel) (by decide +kernel)
set_option maxRecDepth 20000 in
theorem m_co_X4_granted : Cond.code yX4_granted cX4_granted 3 (some .int) ∈ lw_g := mg 468 rfl rfl
set_option maxRecDepth 20000 in
theorem m_ml_L_90 : Cond.methodLink RL 90 yX4_sees ∈ lw_g := mg 469 (by decide +kernel) (by decide +kernel)
set_option maxRecDepth 20000 in
theorem m_im_X4_sees : Cond.instanceMethod yX4_sees ∈ lw_g := mg 470 (by decide +kernel) (by decide +kernel)
set_option maxRecDepth 20000 in
theorem m_se_X4_sees : Cond.selects RX4 yX4_sees yX4_sees ∈ lw_g := mg 471 (by decide +kernel) (by decide +kernel)
set_option maxRecDepth 20000 in
theorem m_co_X4_sees : Cond.code yX4_sees cX4_sees 3 (some .int) ∈ lw_g := mg 472 rfl rfl
set_option maxRecDepth 20000 in
theorem m_ml_X4_162 : Cond.methodLink RX4 162 yX2_note ∈ lw_g := mg 473 (by decide +kernel) (by decide +kernel)
set_option maxRecDepth 20000 in
theorem m_im_X2_note : Cond.instanceMethod yX2_note ∈ lw_g := mg 474 (by decide +kernel) (by decide +kernel)
set_option maxRecDepth 20000 in
theorem m_se_X2_note : Cond.selects RX2 yX2_note yX2_note ∈ lw_g := mg 475 (by decide +kernel) (by decide +kernel)
set_option maxRecDepth 20000 in
theorem m_co_X2_note : Cond.code yX2_note cX2_note 3 (some .boolean) ∈ lw_g := mg 476 rfl rfl
set_option maxRecDepth 20000 in
theorem m_ml_L_94 : Cond.methodLink RL 94 yX4_forget ∈ lw_g := mg 477 (by decide +kernel) (by decide +kernel)
set_option maxRecDepth 20000 in
theorem m_im_X4_forget : Cond.instanceMethod yX4_forget ∈ lw_g := mg 478 (by decide +kernel) (by decide +kernel)
set_option maxRecDepth 20000 in
theorem m_se_X4_forget : Cond.selects RX4 yX4_forget yX4_forget ∈ lw_g := mg 479 (by decide +kernel) (by decide +kernel)
set_option maxRecDepth 20000 in
theorem m_co_X4_forget : Cond.code yX4_forget cX4_forget 2 (some .int) ∈ lw_g := mg 480 rfl rfl
set_option maxRecDepth 20000 in
theorem m_ml_X4_168 : Cond.methodLink RX4 168 yX2_drop ∈ lw_g := mg 481 (by decide +kernel) (by decide +kernel)
set_option maxRecDepth 20000 in
theorem m_im_X2_drop : Cond.instanceMethod yX2_drop ∈ lw_g := mg 482 (by decide +kernel) (by decide +kernel)
set_option maxRecDepth 20000 in
theorem m_se_X2_drop : Cond.selects RX2 yX2_drop yX2_drop ∈ lw_g := mg 483 (by decide +kernel) (by decide +kernel)
set_option maxRecDepth 20000 in
theorem m_co_X2_drop : Cond.code yX2_drop cX2_drop 1 none ∈ lw_g := mg 484 rfl rfl
set_option maxRecDepth 20000 in
theorem m_ml_L_98 : Cond.methodLink RL 98 yX4_ranks ∈ lw_g := mg 485 (by decide +kernel) (by decide +kernel)
set_option maxRecDepth 20000 in
theorem m_im_X4_ranks : Cond.instanceMethod yX4_ranks ∈ lw_g := mg 486 (by decide +kernel) (by decide +kernel)
set_option maxRecDepth 20000 in
theorem m_se_X4_ranks : Cond.selects RX4 yX4_ranks yX4_ranks ∈ lw_g := mg 487 (by decide +kernel) (by decide +kernel)
set_option maxRecDepth 20000 in
theorem m_co_X4_ranks : Cond.code yX4_ranks cX4_ranks 4 (some .int) ∈ lw_g := mg 488 rfl rfl
set_option maxRecDepth 20000 in
theorem m_ml_X4_171 : Cond.methodLink RX4 171 yX2_comeTrue ∈ lw_g := mg 489 (by decide +kernel) (by decide +kernel)
set_option maxRecDepth 20000 in
theorem m_im_X2_comeTrue : Cond.instanceMethod yX2_comeTrue ∈ lw_g := mg 490 (by decide +kernel) (by decide +kernel)
set_option maxRecDepth 20000 in
theorem m_se_X2_comeTrue : Cond.selects RX2 yX2_comeTrue yX2_comeTrue ∈ lw_g := mg 491 (by decide +kernel) (by decide +kernel)
set_option maxRecDepth 20000 in
theorem m_co_X2_comeTrue : Cond.code yX2_comeTrue cX2_comeTrue 4 (some .boolean) ∈ lw_g := mg 492 rfl rfl
set_option maxRecDepth 20000 in
theorem m_ml_X2_20 : Cond.methodLink RX2 20 yX2_lastTick ∈ lw_g := mg 493 (by decide +kernel) (by decide +kernel)
set_option maxRecDepth 20000 in
theorem m_im_X2_lastTick : Cond.instanceMethod yX2_lastTick ∈ lw_g := mg 495 (by decide +kernel) (by decide +kernel)
set_option maxRecDepth 20000 in
theorem m_co_X2_lastTick : Cond.code yX2_lastTick cX2_lastTick 3 (some .int) ∈ lw_g := mg 496 rfl rfl
set_option maxRecDepth 20000 in
theorem m_ml_X2_34 : Cond.methodLink RX2 34 yJ9_max_7cf53 ∈ lw_g := mg 497 (by decide +kernel) (by decide +kernel)
set_option maxRecDepth 20000 in
theorem m_st_J9_max_7cf53 : Cond.static yJ9_max_7cf53 ∈ lw_g := mg 498 (by decide +kernel) (by decide +kernel)
set_option maxRecDepth 20000 in
theorem m_co_J9_max_7cf53 : Cond.code yJ9_max_7cf53 cJ9_max_7cf53 2 (some .int) ∈ lw_g := mg 499 rfl rfl
set_option maxRecDepth 20000 in
theorem m_ml_X2_24 : Cond.methodLink RX2 24 yX0_tick ∈ lw_g := mg 500 (by decide +kernel) (by decide +kernel)
set_option maxRecDepth 20000 in
theorem m_ml_X2_30 : Cond.methodLink RX2 30 yX2_allowsInTick ∈ lw_g := mg 501 (by decide +kernel) (by decide +kernel)
set_option maxRecDepth 20000 in
theorem m_im_X2_allowsInTick : Cond.instanceMethod yX2_allowsInTick ∈ lw_g := mg 503 (by decide +kernel) (by decide +kernel)
set_option maxRecDepth 20000 in
theorem m_co_X2_allowsInTick : Cond.code yX2_allowsInTick cX2_allowsInTick 4 (some .boolean) ∈ lw_g := mg 504 rfl rfl
set_option maxRecDepth 20000 in
theorem m_ml_L_102 : Cond.methodLink RL 102 yX4_keep ∈ lw_g := mg 505 (by decide +kernel) (by decide +kernel)
set_option maxRecDepth 20000 in
theorem m_im_X4_keep : Cond.instanceMethod yX4_keep ∈ lw_g := mg 506 (by decide +kernel) (by decide +kernel)
set_option maxRecDepth 20000 in
theorem m_se_X4_keep : Cond.selects RX4 yX4_keep yX4_keep ∈ lw_g := mg 507 (by decide +kernel) (by decide +kernel)
set_option maxRecDepth 20000 in
theorem m_co_X4_keep : Cond.code yX4_keep cX4_keep 2 (some .int) ∈ lw_g := mg 508 rfl rfl
set_option maxRecDepth 20000 in
theorem m_ml_X4_174 : Cond.methodLink RX4 174 yX0_engineLetters ∈ lw_g := mg 509 (by decide +kernel) (by decide +kernel)
set_option maxRecDepth 20000 in
theorem m_im_X0_engineLetters : Cond.instanceMethod yX0_engineLetters ∈ lw_g := mg 510 (by decide +kernel) (by decide +kernel)
set_option maxRecDepth 20000 in
theorem m_se_X0_engineLetters : Cond.selects RX0 yX0_engineLetters yX0_engineLetters ∈ lw_g := mg 511 (by decide +kernel) (by decide +kernel)
set_option maxRecDepth 20000 in
theorem m_co_X0_engineLetters : Cond.code yX0_engineLetters cX0_engineLetters 3 (some .int) ∈ lw_g := mg 512 rfl rfl
set_option maxRecDepth 20000 in
theorem m_ml_X0_70 : Cond.methodLink RX0 70 yX0_engineLettersOf ∈ lw_g := mg 513 (by decide +kernel) (by decide +kernel)
set_option maxRecDepth 20000 in
theorem m_ml_L_106 : Cond.methodLink RL 106 yX4_back ∈ lw_g := mg 514 (by decide +kernel) (by decide +kernel)
set_option maxRecDepth 20000 in
theorem m_im_X4_back : Cond.instanceMethod yX4_back ∈ lw_g := mg 515 (by decide +kernel) (by decide +kernel)
set_option maxRecDepth 20000 in
theorem m_se_X4_back : Cond.selects RX4 yX4_back yX4_back ∈ lw_g := mg 516 (by decide +kernel) (by decide +kernel)
set_option maxRecDepth 20000 in
theorem m_co_X4_back : Cond.code yX4_back cX4_back 2 (some .int) ∈ lw_g := mg 517 rfl rfl
set_option maxRecDepth 20000 in
theorem m_ml_X4_177 : Cond.methodLink RX4 177 yX1_lose ∈ lw_g := mg 518 (by decide +kernel) (by decide +kernel)
set_option maxRecDepth 20000 in
theorem m_im_X1_lose : Cond.instanceMethod yX1_lose ∈ lw_g := mg 519 (by decide +kernel) (by decide +kernel)
set_option maxRecDepth 20000 in
theorem m_se_X1_lose : Cond.selects RX1 yX1_lose yX1_lose ∈ lw_g := mg 520 (by decide +kernel) (by decide +kernel)
set_option maxRecDepth 20000 in
theorem m_co_X1_lose : Cond.code yX1_lose cX1_lose 1 none ∈ lw_g := mg 521 rfl rfl
set_option maxRecDepth 20000 in
theorem m_ml_L_110 : Cond.methodLink RL 110 yX4_count ∈ lw_g := mg 522 (by decide +kernel) (by decide +kernel)
set_option maxRecDepth 20000 in
theorem m_im_X4_count : Cond.instanceMethod yX4_count ∈ lw_g := mg 523 (by decide +kernel) (by decide +kernel)
set_option maxRecDepth 20000 in
theorem m_se_X4_count : Cond.selects RX4 yX4_count yX4_count ∈ lw_g := mg 524 (by decide +kernel) (by decide +kernel)
set_option maxRecDepth 20000 in
theorem m_co_X4_count : Cond.code yX4_count cX4_count 2 (some .int) ∈ lw_g := mg 525 rfl rfl
set_option maxRecDepth 20000 in
theorem m_cl_L_10 : Cond.classLink RL 10 RX5 ∈ lw_g := mg 526 (by decide +kernel) (by decide +kernel)
set_option maxRecDepth 20000 in
theorem m_is_X5 : Cond.instantiable RX5 17 ∈ lw_g := mg 527 (by decide +kernel) (by decide +kernel)
set_option maxRecDepth 20000 in
theorem m_ml_L_12 : Cond.methodLink RL 12 yX5_init ∈ lw_g := mg 528 (by decide +kernel) (by decide +kernel)
set_option maxRecDepth 20000 in
theorem m_im_X5_init : Cond.instanceMethod yX5_init ∈ lw_g := mg 529 (by decide +kernel) (by decide +kernel)
set_option maxRecDepth 20000 in
theorem m_co_X5_init : Cond.code yX5_init cX5_init 2 none ∈ lw_g := mg 530 rfl rfl
set_option maxRecDepth 20000 in
theorem m_ml_X5_1 : Cond.methodLink RX5 1 objectInit ∈ lw_g := mg 531 (by decide +kernel) (by decide +kernel)
set_option maxRecDepth 20000 in
theorem m_fl_X5_7 : Cond.fieldLink RX5 7 "TransferRingsModel" "s" "[I" ∈ lw_g := mg 532 (by decide +kernel) (by decide +kernel)
set_option maxRecDepth 20000 in
theorem m_fl_X5_98 : Cond.fieldLink RX5 98 "TransferRingsModel" "undos" "I" ∈ lw_g := mg 533 (by decide +kernel) (by decide +kernel)
set_option maxRecDepth 20000 in
theorem m_fl_X5_13 : Cond.fieldLink RX5 13 "TransferRingsModel" "past" "[I" ∈ lw_g := mg 534 (by decide +kernel) (by decide +kernel)
set_option maxRecDepth 20000 in
theorem m_fl_X5_16 : Cond.fieldLink RX5 16 "TransferRingsModel" "isKept" "[Z" ∈ lw_g := mg 535 (by decide +kernel) (by decide +kernel)
set_option maxRecDepth 20000 in
theorem m_fl_X5_20 : Cond.fieldLink RX5 20 "TransferRingsModel" "kept" "[I" ∈ lw_g := mg 536 (by decide +kernel) (by decide +kernel)
set_option maxRecDepth 20000 in
theorem m_fl_X5_23 : Cond.fieldLink RX5 23 "TransferRingsModel" "spare" "[I" ∈ lw_g := mg 537 (by decide +kernel) (by decide +kernel)
set_option maxRecDepth 20000 in
theorem m_fl_X5_161 : Cond.fieldLink RX5 161 "TransferRingsModel" "seen" "I" ∈ lw_g := mg 538 (by decide +kernel) (by decide +kernel)
set_option maxRecDepth 20000 in
theorem m_fl_X5_26 : Cond.fieldLink RX5 26 "TransferRingsModel" "seenTick" "[I" ∈ lw_g := mg 539 (by decide +kernel) (by decide +kernel)
set_option maxRecDepth 20000 in
theorem m_fl_X5_29 : Cond.fieldLink RX5 29 "TransferRingsModel" "seenWho" "[I" ∈ lw_g := mg 540 (by decide +kernel) (by decide +kernel)
set_option maxRecDepth 20000 in
theorem m_fl_X5_42 : Cond.fieldLink RX5 42 "TransferRingsModel" "letters" "I" ∈ lw_g := mg 541 (by decide +kernel) (by decide +kernel)
set_option maxRecDepth 20000 in
theorem m_fl_X5_32 : Cond.fieldLink RX5 32 "TransferRingsModel" "text" "[I" ∈ lw_g := mg 542 (by decide +kernel) (by decide +kernel)
set_option maxRecDepth 20000 in
theorem m_fl_X5_46 : Cond.fieldLink RX5 46 "TransferRingsModel" "next" "I" ∈ lw_g := mg 543 (by decide +kernel) (by decide +kernel)
set_option maxRecDepth 20000 in
theorem m_fl_X5_59 : Cond.fieldLink RX5 59 "TransferRingsModel" "place" "I" ∈ lw_g := mg 544 (by decide +kernel) (by decide +kernel)
set_option maxRecDepth 20000 in
theorem m_fl_X5_53 : Cond.fieldLink RX5 53 "TransferRingsModel" "token" "I" ∈ lw_g := mg 545 (by decide +kernel) (by decide +kernel)
set_option maxRecDepth 20000 in
theorem m_fl_X5_56 : Cond.fieldLink RX5 56 "TransferRingsModel" "value" "I" ∈ lw_g := mg 546 (by decide +kernel) (by decide +kernel)
set_option maxRecDepth 20000 in
theorem m_fl_X5_35 : Cond.fieldLink RX5 35 "TransferRingsModel" "read" "[I" ∈ lw_g := mg 547 (by decide +kernel) (by decide +kernel)
set_option maxRecDepth 20000 in
theorem m_fl_X5_89 : Cond.fieldLink RX5 89 "TransferRingsModel" "items" "I" ∈ lw_g := mg 548 (by decide +kernel) (by decide +kernel)
set_option maxRecDepth 20000 in
theorem m_ml_L_17 : Cond.methodLink RL 17 yX5_type ∈ lw_g := mg 584 (by decide +kernel) (by decide +kernel)
set_option maxRecDepth 20000 in
theorem m_im_X5_type : Cond.instanceMethod yX5_type ∈ lw_g := mg 585 (by decide +kernel) (by decide +kernel)
set_option maxRecDepth 20000 in
theorem m_se_X5_type : Cond.selects RX5 yX5_type yX5_type ∈ lw_g := mg 586 (by decide +kernel) (by decide +kernel)
set_option maxRecDepth 20000 in
theorem m_co_X5_type : Cond.code yX5_type cX5_type 2 (some .int) ∈ lw_g := mg 587 rfl rfl
set_option maxRecDepth 20000 in
theorem m_ml_X5_38 : Cond.methodLink RX5 38 yX5_in ∈ lw_g := mg 588 (by decide +kernel) (by decide +kernel)
set_option maxRecDepth 20000 in
theorem m_st_X5_in : Cond.static yX5_in ∈ lw_g := mg 589 (by decide +kernel) (by decide +kernel)
set_option maxRecDepth 20000 in
theorem m_co_X5_in : Cond.code yX5_in cX5_in 3 (some .boolean) ∈ lw_g := mg 590 rfl rfl
set_option maxRecDepth 20000 in
theorem m_ml_L_22 : Cond.methodLink RL 22 yX5_clear ∈ lw_g := mg 591 (by decide +kernel) (by decide +kernel)
set_option maxRecDepth 20000 in
theorem m_im_X5_clear : Cond.instanceMethod yX5_clear ∈ lw_g := mg 592 (by decide +kernel) (by decide +kernel)
set_option maxRecDepth 20000 in
theorem m_se_X5_clear : Cond.selects RX5 yX5_clear yX5_clear ∈ lw_g := mg 593 (by decide +kernel) (by decide +kernel)
set_option maxRecDepth 20000 in
theorem m_co_X5_clear : Cond.code yX5_clear cX5_clear 2 (some .int) ∈ lw_g := mg 594 rfl rfl
set_option maxRecDepth 20000 in
theorem m_ml_L_26 : Cond.methodLink RL 26 yX5_posts ∈ lw_g := mg 595 (by decide +kernel) (by decide +kernel)
set_option maxRecDepth 20000 in
theorem m_im_X5_posts : Cond.instanceMethod yX5_posts ∈ lw_g := mg 596 (by decide +kernel) (by decide +kernel)
set_option maxRecDepth 20000 in
theorem m_se_X5_posts : Cond.selects RX5 yX5_posts yX5_posts ∈ lw_g := mg 597 (by decide +kernel) (by decide +kernel)
set_option maxRecDepth 20000 in
theorem m_co_X5_posts : Cond.code yX5_posts cX5_posts 1 (some .int) ∈ lw_g := mg 598 rfl rfl
set_option maxRecDepth 20000 in
theorem m_ml_X5_101 : Cond.methodLink RX5 101 yX5_goesThrough ∈ lw_g := mg 599 (by decide +kernel) (by decide +kernel)
set_option maxRecDepth 20000 in
theorem m_im_X5_goesThrough : Cond.instanceMethod yX5_goesThrough ∈ lw_g := mg 601 (by decide +kernel) (by decide +kernel)
set_option maxRecDepth 20000 in
theorem m_co_X5_goesThrough : Cond.code yX5_goesThrough cX5_goesThrough 4 (some .boolean) ∈ lw_g := mg 602 rfl rfl
set_option maxRecDepth 20000 in
theorem m_ml_X5_65 : Cond.methodLink RX5 65 yX5_takes ∈ lw_g := mg 603 (by decide +kernel) (by decide +kernel)
set_option maxRecDepth 20000 in
theorem m_im_X5_takes : Cond.instanceMethod yX5_takes ∈ lw_g := mg 605 (by decide +kernel) (by decide +kernel)
set_option maxRecDepth 20000 in
theorem m_co_X5_takes : Cond.code yX5_takes cX5_takes 1 none ∈ lw_g := mg 606 rfl rfl
set_option maxRecDepth 20000 in
theorem m_ml_X5_49 : Cond.methodLink RX5 49 yX5_isFigure ∈ lw_g := mg 607 (by decide +kernel) (by decide +kernel)
set_option maxRecDepth 20000 in
theorem m_im_X5_isFigure : Cond.instanceMethod yX5_isFigure ∈ lw_g := mg 609 (by decide +kernel) (by decide +kernel)
set_option maxRecDepth 20000 in
theorem m_co_X5_isFigure : Cond.code yX5_isFigure cX5_isFigure 2 (some .boolean) ∈ lw_g := mg 610 rfl rfl
set_option maxRecDepth 20000 in
theorem m_ml_X5_62 : Cond.methodLink RX5 62 yX5_takesNumber ∈ lw_g := mg 611 (by decide +kernel) (by decide +kernel)
set_option maxRecDepth 20000 in
theorem m_im_X5_takesNumber : Cond.instanceMethod yX5_takesNumber ∈ lw_g := mg 613 (by decide +kernel) (by decide +kernel)
set_option maxRecDepth 20000 in
theorem m_co_X5_takesNumber : Cond.code yX5_takesNumber cX5_takesNumber 6 none ∈ lw_g := mg 614 rfl rfl
set_option maxRecDepth 20000 in
theorem m_ml_X5_92 : Cond.methodLink RX5 92 yX5_readsItem ∈ lw_g := mg 615 (by decide +kernel) (by decide +kernel)
set_option maxRecDepth 20000 in
theorem m_im_X5_readsItem : Cond.instanceMethod yX5_readsItem ∈ lw_g := mg 617 (by decide +kernel) (by decide +kernel)
set_option maxRecDepth 20000 in
theorem m_co_X5_readsItem : Cond.code yX5_readsItem cX5_readsItem 3 (some .boolean) ∈ lw_g := mg 618 rfl rfl
set_option maxRecDepth 20000 in
theorem m_ml_X5_71 : Cond.methodLink RX5 71 yX5_readsLetter ∈ lw_g := mg 619 (by decide +kernel) (by decide +kernel)
set_option maxRecDepth 20000 in
theorem m_im_X5_readsLetter : Cond.instanceMethod yX5_readsLetter ∈ lw_g := mg 621 (by decide +kernel) (by decide +kernel)
set_option maxRecDepth 20000 in
theorem m_co_X5_readsLetter : Cond.code yX5_readsLetter cX5_readsLetter 2 (some .boolean) ∈ lw_g := mg 622 rfl rfl
set_option maxRecDepth 20000 in
theorem m_ml_X5_68 : Cond.methodLink RX5 68 yX5_reads ∈ lw_g := mg 623 (by decide +kernel) (by decide +kernel)
set_option maxRecDepth 20000 in
theorem m_im_X5_reads : Cond.instanceMethod yX5_reads ∈ lw_g := mg 625 (by decide +kernel) (by decide +kernel)
set_option maxRecDepth 20000 in
theorem m_co_X5_reads : Cond.code yX5_reads cX5_reads 4 (some .boolean) ∈ lw_g := mg 626 rfl rfl
set_option maxRecDepth 20000 in
theorem m_ml_X5_95 : Cond.methodLink RX5 95 yX5_doesItem ∈ lw_g := mg 627 (by decide +kernel) (by decide +kernel)
set_option maxRecDepth 20000 in
theorem m_im_X5_doesItem : Cond.instanceMethod yX5_doesItem ∈ lw_g := mg 629 (by decide +kernel) (by decide +kernel)
set_option maxRecDepth 20000 in
theorem m_co_X5_doesItem : Cond.code yX5_doesItem cX5_doesItem 2 (some .boolean) ∈ lw_g := mg 630 rfl rfl
set_option maxRecDepth 20000 in
theorem m_ml_X5_86 : Cond.methodLink RX5 86 yX5_comes ∈ lw_g := mg 631 (by decide +kernel) (by decide +kernel)
set_option maxRecDepth 20000 in
theorem m_im_X5_comes : Cond.instanceMethod yX5_comes ∈ lw_g := mg 633 (by decide +kernel) (by decide +kernel)
set_option maxRecDepth 20000 in
theorem m_co_X5_comes : Cond.code yX5_comes cX5_comes 4 (some .boolean) ∈ lw_g := mg 634 rfl rfl
set_option maxRecDepth 20000 in
theorem m_ml_X5_75 : Cond.methodLink RX5 75 yX5_channelAt ∈ lw_g := mg 635 (by decide +kernel) (by decide +kernel)
set_option maxRecDepth 20000 in
theorem m_st_X5_channelAt : Cond.static yX5_channelAt ∈ lw_g := mg 636 (by decide +kernel) (by decide +kernel)
set_option maxRecDepth 20000 in
theorem m_co_X5_channelAt : Cond.code yX5_channelAt cX5_channelAt 1 (some .int) ∈ lw_g := mg 637 rfl rfl
set_option maxRecDepth 20000 in
theorem m_ml_X5_79 : Cond.methodLink RX5 79 yX5_slotAt ∈ lw_g := mg 638 (by decide +kernel) (by decide +kernel)
set_option maxRecDepth 20000 in
theorem m_st_X5_slotAt : Cond.static yX5_slotAt ∈ lw_g := mg 639 (by decide +kernel) (by decide +kernel)
set_option maxRecDepth 20000 in
theorem m_co_X5_slotAt : Cond.code yX5_slotAt cX5_slotAt 2 (some .int) ∈ lw_g := mg 640 rfl rfl
set_option maxRecDepth 20000 in
theorem m_ml_X5_83 : Cond.methodLink RX5 83 yX5_isEngines ∈ lw_g := mg 641 (by decide +kernel) (by decide +kernel)
set_option maxRecDepth 20000 in
theorem m_im_X5_isEngines : Cond.instanceMethod yX5_isEngines ∈ lw_g := mg 643 (by decide +kernel) (by decide +kernel)
set_option maxRecDepth 20000 in
theorem m_co_X5_isEngines : Cond.code yX5_isEngines cX5_isEngines 2 (some .boolean) ∈ lw_g := mg 644 rfl rfl
set_option maxRecDepth 20000 in
theorem m_ml_X5_105 : Cond.methodLink RX5 105 yX5_keepsSpare ∈ lw_g := mg 645 (by decide +kernel) (by decide +kernel)
set_option maxRecDepth 20000 in
theorem m_im_X5_keepsSpare : Cond.instanceMethod yX5_keepsSpare ∈ lw_g := mg 647 (by decide +kernel) (by decide +kernel)
set_option maxRecDepth 20000 in
theorem m_co_X5_keepsSpare : Cond.code yX5_keepsSpare cX5_keepsSpare 2 none ∈ lw_g := mg 648 rfl rfl
set_option maxRecDepth 20000 in
theorem m_ml_X5_108 : Cond.methodLink RX5 108 yX5_takesBack ∈ lw_g := mg 649 (by decide +kernel) (by decide +kernel)
set_option maxRecDepth 20000 in
theorem m_im_X5_takesBack : Cond.instanceMethod yX5_takesBack ∈ lw_g := mg 651 (by decide +kernel) (by decide +kernel)
set_option maxRecDepth 20000 in
theorem m_co_X5_takesBack : Cond.code yX5_takesBack cX5_takesBack 2 none ∈ lw_g := mg 652 rfl rfl
set_option maxRecDepth 20000 in
theorem m_ml_X5_111 : Cond.methodLink RX5 111 yX5_remembers ∈ lw_g := mg 653 (by decide +kernel) (by decide +kernel)
set_option maxRecDepth 20000 in
theorem m_im_X5_remembers : Cond.instanceMethod yX5_remembers ∈ lw_g := mg 655 (by decide +kernel) (by decide +kernel)
set_option maxRecDepth 20000 in
theorem m_co_X5_remembers : Cond.code yX5_remembers cX5_remembers 2 none ∈ lw_g := mg 656 rfl rfl
set_option maxRecDepth 20000 in
theorem m_ml_L_30 : Cond.methodLink RL 30 yX5_ticks ∈ lw_g := mg 657 (by decide +kernel) (by decide +kernel)
set_option maxRecDepth 20000 in
theorem m_im_X5_ticks : Cond.instanceMethod yX5_ticks ∈ lw_g := mg 658 (by decide +kernel) (by decide +kernel)
set_option maxRecDepth 20000 in
theorem m_se_X5_ticks : Cond.selects RX5 yX5_ticks yX5_ticks ∈ lw_g := mg 659 (by decide +kernel) (by decide +kernel)
set_option maxRecDepth 20000 in
theorem m_co_X5_ticks : Cond.code yX5_ticks cX5_ticks 4 (some .int) ∈ lw_g := mg 660 rfl rfl
set_option maxRecDepth 20000 in
theorem m_ml_X5_137 : Cond.methodLink RX5 137 yX5_ticksOnce ∈ lw_g := mg 661 (by decide +kernel) (by decide +kernel)
set_option maxRecDepth 20000 in
theorem m_im_X5_ticksOnce : Cond.instanceMethod yX5_ticksOnce ∈ lw_g := mg 663 (by decide +kernel) (by decide +kernel)
set_option maxRecDepth 20000 in
theorem m_co_X5_ticksOnce : Cond.code yX5_ticksOnce cX5_ticksOnce 5 (some .int) ∈ lw_g := mg 664 rfl rfl
set_option maxRecDepth 20000 in
theorem m_ml_X5_127 : Cond.methodLink RX5 127 yX5_writes ∈ lw_g := mg 665 (by decide +kernel) (by decide +kernel)
set_option maxRecDepth 20000 in
theorem m_im_X5_writes : Cond.instanceMethod yX5_writes ∈ lw_g := mg 667 (by decide +kernel) (by decide +kernel)
set_option maxRecDepth 20000 in
theorem m_co_X5_writes : Cond.code yX5_writes cX5_writes 5 none ∈ lw_g := mg 668 rfl rfl
set_option maxRecDepth 20000 in
theorem m_ml_X5_131 : Cond.methodLink RX5 131 yX5_isReady ∈ lw_g := mg 669 (by decide +kernel) (by decide +kernel)
set_option maxRecDepth 20000 in
theorem m_im_X5_isReady : Cond.instanceMethod yX5_isReady ∈ lw_g := mg 671 (by decide +kernel) (by decide +kernel)
set_option maxRecDepth 20000 in
theorem m_co_X5_isReady : Cond.code yX5_isReady cX5_isReady 4 (some .boolean) ∈ lw_g := mg 672 rfl rfl
set_option maxRecDepth 20000 in
theorem m_ml_X5_114 : Cond.methodLink RX5 114 yX5_present ∈ lw_g := mg 673 (by decide +kernel) (by decide +kernel)
set_option maxRecDepth 20000 in
theorem m_im_X5_present : Cond.instanceMethod yX5_present ∈ lw_g := mg 675 (by decide +kernel) (by decide +kernel)
set_option maxRecDepth 20000 in
theorem m_co_X5_present : Cond.code yX5_present cX5_present 3 (some .int) ∈ lw_g := mg 676 rfl rfl
set_option maxRecDepth 20000 in
theorem m_ml_X5_134 : Cond.methodLink RX5 134 yX5_carries ∈ lw_g := mg 677 (by decide +kernel) (by decide +kernel)
set_option maxRecDepth 20000 in
theorem m_im_X5_carries : Cond.instanceMethod yX5_carries ∈ lw_g := mg 679 (by decide +kernel) (by decide +kernel)
set_option maxRecDepth 20000 in
theorem m_co_X5_carries : Cond.code yX5_carries cX5_carries 7 none ∈ lw_g := mg 680 rfl rfl
set_option maxRecDepth 20000 in
theorem m_ml_X5_120 : Cond.methodLink RX5 120 yX5_unitsOf ∈ lw_g := mg 681 (by decide +kernel) (by decide +kernel)
set_option maxRecDepth 20000 in
theorem m_im_X5_unitsOf : Cond.instanceMethod yX5_unitsOf ∈ lw_g := mg 683 (by decide +kernel) (by decide +kernel)
set_option maxRecDepth 20000 in
theorem m_co_X5_unitsOf : Cond.code yX5_unitsOf cX5_unitsOf 2 (some .int) ∈ lw_g := mg 684 rfl rfl
set_option maxRecDepth 20000 in
theorem m_ml_X5_123 : Cond.methodLink RX5 123 yX5_addressOf ∈ lw_g := mg 685 (by decide +kernel) (by decide +kernel)
set_option maxRecDepth 20000 in
theorem m_im_X5_addressOf : Cond.instanceMethod yX5_addressOf ∈ lw_g := mg 687 (by decide +kernel) (by decide +kernel)
set_option maxRecDepth 20000 in
theorem m_co_X5_addressOf : Cond.code yX5_addressOf cX5_addressOf 6 (some .int) ∈ lw_g := mg 688 rfl rfl
set_option maxRecDepth 20000 in
theorem m_ml_X5_117 : Cond.methodLink RX5 117 yX5_around ∈ lw_g := mg 689 (by decide +kernel) (by decide +kernel)
set_option maxRecDepth 20000 in
theorem m_st_X5_around : Cond.static yX5_around ∈ lw_g := mg 690 (by decide +kernel) (by decide +kernel)
set_option maxRecDepth 20000 in
theorem m_co_X5_around : Cond.code yX5_around cX5_around 2 (some .int) ∈ lw_g := mg 691 rfl rfl
set_option maxRecDepth 20000 in
theorem m_ml_L_34 : Cond.methodLink RL 34 yX5_cancels ∈ lw_g := mg 692 (by decide +kernel) (by decide +kernel)
set_option maxRecDepth 20000 in
theorem m_im_X5_cancels : Cond.instanceMethod yX5_cancels ∈ lw_g := mg 693 (by decide +kernel) (by decide +kernel)
set_option maxRecDepth 20000 in
theorem m_se_X5_cancels : Cond.selects RX5 yX5_cancels yX5_cancels ∈ lw_g := mg 694 (by decide +kernel) (by decide +kernel)
set_option maxRecDepth 20000 in
theorem m_co_X5_cancels : Cond.code yX5_cancels cX5_cancels 6 (some .int) ∈ lw_g := mg 695 rfl rfl
set_option maxRecDepth 20000 in
theorem m_ml_X5_141 : Cond.methodLink RX5 141 yX5_isChannel ∈ lw_g := mg 696 (by decide +kernel) (by decide +kernel)
set_option maxRecDepth 20000 in
theorem m_st_X5_isChannel : Cond.static yX5_isChannel ∈ lw_g := mg 697 (by decide +kernel) (by decide +kernel)
set_option maxRecDepth 20000 in
theorem m_co_X5_isChannel : Cond.code yX5_isChannel cX5_isChannel 1 (some .boolean) ∈ lw_g := mg 698 rfl rfl
set_option maxRecDepth 20000 in
theorem m_ml_X5_144 : Cond.methodLink RX5 144 yX5_writesAll ∈ lw_g := mg 699 (by decide +kernel) (by decide +kernel)
set_option maxRecDepth 20000 in
theorem m_im_X5_writesAll : Cond.instanceMethod yX5_writesAll ∈ lw_g := mg 701 (by decide +kernel) (by decide +kernel)
set_option maxRecDepth 20000 in
theorem m_co_X5_writesAll : Cond.code yX5_writesAll cX5_writesAll 3 none ∈ lw_g := mg 702 rfl rfl
set_option maxRecDepth 20000 in
theorem m_ml_L_38 : Cond.methodLink RL 38 yX5_switches ∈ lw_g := mg 703 (by decide +kernel) (by decide +kernel)
set_option maxRecDepth 20000 in
theorem m_im_X5_switches : Cond.instanceMethod yX5_switches ∈ lw_g := mg 704 (by decide +kernel) (by decide +kernel)
set_option maxRecDepth 20000 in
theorem m_se_X5_switches : Cond.selects RX5 yX5_switches yX5_switches ∈ lw_g := mg 705 (by decide +kernel) (by decide +kernel)
set_option maxRecDepth 20000 in
theorem m_co_X5_switches : Cond.code yX5_switches cX5_switches 3 (some .int) ∈ lw_g := mg 706 rfl rfl
set_option maxRecDepth 20000 in
theorem m_ml_L_43 : Cond.methodLink RL 43 yX5_tunes ∈ lw_g := mg 707 (by decide +kernel) (by decide +kernel)
set_option maxRecDepth 20000 in
theorem m_im_X5_tunes : Cond.instanceMethod yX5_tunes ∈ lw_g := mg 708 (by decide +kernel) (by decide +kernel)
set_option maxRecDepth 20000 in
theorem m_se_X5_tunes : Cond.selects RX5 yX5_tunes yX5_tunes ∈ lw_g := mg 709 (by decide +kernel) (by decide +kernel)
set_option maxRecDepth 20000 in
theorem m_co_X5_tunes : Cond.code yX5_tunes cX5_tunes 5 (some .int) ∈ lw_g := mg 710 rfl rfl
set_option maxRecDepth 20000 in
theorem m_ml_L_47 : Cond.methodLink RL 47 yX5_undo ∈ lw_g := mg 711 (by decide +kernel) (by decide +kernel)
set_option maxRecDepth 20000 in
theorem m_im_X5_undo : Cond.instanceMethod yX5_undo ∈ lw_g := mg 712 (by decide +kernel) (by decide +kernel)
set_option maxRecDepth 20000 in
theorem m_se_X5_undo : Cond.selects RX5 yX5_undo yX5_undo ∈ lw_g := mg 713 (by decide +kernel) (by decide +kernel)
set_option maxRecDepth 20000 in
theorem m_co_X5_undo : Cond.code yX5_undo cX5_undo 2 (some .int) ∈ lw_g := mg 714 rfl rfl
set_option maxRecDepth 20000 in
theorem m_ml_L_51 : Cond.methodLink RL 51 yX5_at ∈ lw_g := mg 715 (by decide +kernel) (by decide +kernel)
set_option maxRecDepth 20000 in
theorem m_im_X5_at : Cond.instanceMethod yX5_at ∈ lw_g := mg 716 (by decide +kernel) (by decide +kernel)
set_option maxRecDepth 20000 in
theorem m_se_X5_at : Cond.selects RX5 yX5_at yX5_at ∈ lw_g := mg 717 (by decide +kernel) (by decide +kernel)
set_option maxRecDepth 20000 in
theorem m_co_X5_at : Cond.code yX5_at cX5_at 2 (some .int) ∈ lw_g := mg 718 rfl rfl
set_option maxRecDepth 20000 in
theorem m_ml_L_56 : Cond.methodLink RL 56 yX5_channel ∈ lw_g := mg 719 (by decide +kernel) (by decide +kernel)
set_option maxRecDepth 20000 in
theorem m_im_X5_channel : Cond.instanceMethod yX5_channel ∈ lw_g := mg 720 (by decide +kernel) (by decide +kernel)
set_option maxRecDepth 20000 in
theorem m_se_X5_channel : Cond.selects RX5 yX5_channel yX5_channel ∈ lw_g := mg 721 (by decide +kernel) (by decide +kernel)
set_option maxRecDepth 20000 in
theorem m_co_X5_channel : Cond.code yX5_channel cX5_channel 4 (some .int) ∈ lw_g := mg 722 rfl rfl
set_option maxRecDepth 20000 in
theorem m_ml_L_60 : Cond.methodLink RL 60 yX5_slot ∈ lw_g := mg 723 (by decide +kernel) (by decide +kernel)
set_option maxRecDepth 20000 in
theorem m_im_X5_slot : Cond.instanceMethod yX5_slot ∈ lw_g := mg 724 (by decide +kernel) (by decide +kernel)
set_option maxRecDepth 20000 in
theorem m_se_X5_slot : Cond.selects RX5 yX5_slot yX5_slot ∈ lw_g := mg 725 (by decide +kernel) (by decide +kernel)
set_option maxRecDepth 20000 in
theorem m_co_X5_slot : Cond.code yX5_slot cX5_slot 5 (some .int) ∈ lw_g := mg 726 rfl rfl
set_option maxRecDepth 20000 in
theorem m_ml_X5_147 : Cond.methodLink RX5 147 yX5_isSlot ∈ lw_g := mg 727 (by decide +kernel) (by decide +kernel)
set_option maxRecDepth 20000 in
theorem m_st_X5_isSlot : Cond.static yX5_isSlot ∈ lw_g := mg 728 (by decide +kernel) (by decide +kernel)
set_option maxRecDepth 20000 in
theorem m_co_X5_isSlot : Cond.code yX5_isSlot cX5_isSlot 2 (some .boolean) ∈ lw_g := mg 729 rfl rfl
set_option maxRecDepth 20000 in
theorem m_ml_L_65 : Cond.methodLink RL 65 yX5_unit ∈ lw_g := mg 730 (by decide +kernel) (by decide +kernel)
set_option maxRecDepth 20000 in
theorem m_im_X5_unit : Cond.instanceMethod yX5_unit ∈ lw_g := mg 731 (by decide +kernel) (by decide +kernel)
set_option maxRecDepth 20000 in
theorem m_se_X5_unit : Cond.selects RX5 yX5_unit yX5_unit ∈ lw_g := mg 732 (by decide +kernel) (by decide +kernel)
set_option maxRecDepth 20000 in
theorem m_co_X5_unit : Cond.code yX5_unit cX5_unit 6 (some .int) ∈ lw_g := mg 733 rfl rfl
set_option maxRecDepth 20000 in
theorem m_ml_L_69 : Cond.methodLink RL 69 yX5_waiting ∈ lw_g := mg 734 (by decide +kernel) (by decide +kernel)
set_option maxRecDepth 20000 in
theorem m_im_X5_waiting : Cond.instanceMethod yX5_waiting ∈ lw_g := mg 735 (by decide +kernel) (by decide +kernel)
set_option maxRecDepth 20000 in
theorem m_se_X5_waiting : Cond.selects RX5 yX5_waiting yX5_waiting ∈ lw_g := mg 736 (by decide +kernel) (by decide +kernel)
set_option maxRecDepth 20000 in
theorem m_co_X5_waiting : Cond.code yX5_waiting cX5_waiting 2 (some .int) ∈ lw_g := mg 737 rfl rfl
set_option maxRecDepth 20000 in
theorem m_ml_L_73 : Cond.methodLink RL 73 yX5_both ∈ lw_g := mg 738 (by decide +kernel) (by decide +kernel)
set_option maxRecDepth 20000 in
theorem m_im_X5_both : Cond.instanceMethod yX5_both ∈ lw_g := mg 739 (by decide +kernel) (by decide +kernel)
set_option maxRecDepth 20000 in
theorem m_se_X5_both : Cond.selects RX5 yX5_both yX5_both ∈ lw_g := mg 740 (by decide +kernel) (by decide +kernel)
set_option maxRecDepth 20000 in
theorem m_co_X5_both : Cond.code yX5_both cX5_both 11 (some .int) ∈ lw_g := mg 741 rfl rfl
set_option maxRecDepth 20000 in
theorem m_ml_X5_151 : Cond.methodLink RX5 151 yX5_writesOf ∈ lw_g := mg 742 (by decide +kernel) (by decide +kernel)
set_option maxRecDepth 20000 in
theorem m_im_X5_writesOf : Cond.instanceMethod yX5_writesOf ∈ lw_g := mg 744 (by decide +kernel) (by decide +kernel)
set_option maxRecDepth 20000 in
theorem m_co_X5_writesOf : Cond.code yX5_writesOf cX5_writesOf 5 (some .long) ∈ lw_g := mg 745 rfl rfl
set_option maxRecDepth 20000 in
theorem m_ml_L_77 : Cond.methodLink RL 77 yX5_over ∈ lw_g := mg 746 (by decide +kernel) (by decide +kernel)
set_option maxRecDepth 20000 in
theorem m_im_X5_over : Cond.instanceMethod yX5_over ∈ lw_g := mg 747 (by decide +kernel) (by decide +kernel)
set_option maxRecDepth 20000 in
theorem m_se_X5_over : Cond.selects RX5 yX5_over yX5_over ∈ lw_g := mg 748 (by decide +kernel) (by decide +kernel)
set_option maxRecDepth 20000 in
theorem m_co_X5_over : Cond.code yX5_over cX5_over 3 (some .int) ∈ lw_g := mg 749 rfl rfl
set_option maxRecDepth 20000 in
theorem m_ml_X5_158 : Cond.methodLink RX5 158 yX5_overOf ∈ lw_g := mg 750 (by decide +kernel) (by decide +kernel)
set_option maxRecDepth 20000 in
theorem m_im_X5_overOf : Cond.instanceMethod yX5_overOf ∈ lw_g := mg 752 (by decide +kernel) (by decide +kernel)
set_option maxRecDepth 20000 in
theorem m_co_X5_overOf : Cond.code yX5_overOf cX5_overOf 3 (some .int) ∈ lw_g := mg 753 rfl rfl
set_option maxRecDepth 20000 in
theorem m_ml_X5_155 : Cond.methodLink RX5 155 yX5_hasEngines ∈ lw_g := mg 754 (by decide +kernel) (by decide +kernel)
set_option maxRecDepth 20000 in
theorem m_im_X5_hasEngines : Cond.instanceMethod yX5_hasEngines ∈ lw_g := mg 756 (by decide +kernel) (by decide +kernel)
set_option maxRecDepth 20000 in
theorem m_co_X5_hasEngines : Cond.code yX5_hasEngines cX5_hasEngines 4 (some .boolean) ∈ lw_g := mg 757 rfl rfl
set_option maxRecDepth 20000 in
theorem m_ml_L_81 : Cond.methodLink RL 81 yX5_lands ∈ lw_g := mg 758 (by decide +kernel) (by decide +kernel)
set_option maxRecDepth 20000 in
theorem m_im_X5_lands : Cond.instanceMethod yX5_lands ∈ lw_g := mg 759 (by decide +kernel) (by decide +kernel)
set_option maxRecDepth 20000 in
theorem m_se_X5_lands : Cond.selects RX5 yX5_lands yX5_lands ∈ lw_g := mg 760 (by decide +kernel) (by decide +kernel)
set_option maxRecDepth 20000 in
theorem m_co_X5_lands : Cond.code yX5_lands cX5_lands 6 (some .int) ∈ lw_g := mg 761 rfl rfl
set_option maxRecDepth 20000 in
theorem m_ml_L_85 : Cond.methodLink RL 85 yX5_enough ∈ lw_g := mg 762 (by decide +kernel) (by decide +kernel)
set_option maxRecDepth 20000 in
theorem m_im_X5_enough : Cond.instanceMethod yX5_enough ∈ lw_g := mg 763 (by decide +kernel) (by decide +kernel)
set_option maxRecDepth 20000 in
theorem m_se_X5_enough : Cond.selects RX5 yX5_enough yX5_enough ∈ lw_g := mg 764 (by decide +kernel) (by decide +kernel)
set_option maxRecDepth 20000 in
theorem m_co_X5_enough : Cond.code yX5_enough cX5_enough 6 (some .int) ∈ lw_g := mg 765 rfl rfl
set_option maxRecDepth 20000 in
theorem m_ml_L_89 : Cond.methodLink RL 89 yX5_granted ∈ lw_g := mg 766 (by decide +kernel) (by decide +kernel)
set_option maxRecDepth 20000 in
theorem m_im_X5_granted : Cond.instanceMethod yX5_granted ∈ lw_g := mg 767 (by decide +kernel) (by decide +kernel)
set_option maxRecDepth 20000 in
theorem m_se_X5_granted : Cond.selects RX5 yX5_granted yX5_granted ∈ lw_g := mg 768 (by decide +kernel) (by decide +kernel)
set_option maxRecDepth 20000 in
theorem m_co_X5_granted : Cond.code yX5_granted cX5_granted 4 (some .int) ∈ lw_g := mg 769 rfl rfl
set_option maxRecDepth 20000 in
theorem m_ml_L_93 : Cond.methodLink RL 93 yX5_sees ∈ lw_g := mg 770 (by decide +kernel) (by decide +kernel)
set_option maxRecDepth 20000 in
theorem m_im_X5_sees : Cond.instanceMethod yX5_sees ∈ lw_g := mg 771 (by decide +kernel) (by decide +kernel)
set_option maxRecDepth 20000 in
theorem m_se_X5_sees : Cond.selects RX5 yX5_sees yX5_sees ∈ lw_g := mg 772 (by decide +kernel) (by decide +kernel)
set_option maxRecDepth 20000 in
theorem m_co_X5_sees : Cond.code yX5_sees cX5_sees 3 (some .int) ∈ lw_g := mg 773 rfl rfl
set_option maxRecDepth 20000 in
theorem m_ml_L_97 : Cond.methodLink RL 97 yX5_forget ∈ lw_g := mg 774 (by decide +kernel) (by decide +kernel)
set_option maxRecDepth 20000 in
theorem m_im_X5_forget : Cond.instanceMethod yX5_forget ∈ lw_g := mg 775 (by decide +kernel) (by decide +kernel)
set_option maxRecDepth 20000 in
theorem m_se_X5_forget : Cond.selects RX5 yX5_forget yX5_forget ∈ lw_g := mg 776 (by decide +kernel) (by decide +kernel)
set_option maxRecDepth 20000 in
theorem m_co_X5_forget : Cond.code yX5_forget cX5_forget 2 (some .int) ∈ lw_g := mg 777 rfl rfl
set_option maxRecDepth 20000 in
theorem m_ml_L_101 : Cond.methodLink RL 101 yX5_ranks ∈ lw_g := mg 778 (by decide +kernel) (by decide +kernel)
set_option maxRecDepth 20000 in
theorem m_im_X5_ranks : Cond.instanceMethod yX5_ranks ∈ lw_g := mg 779 (by decide +kernel) (by decide +kernel)
set_option maxRecDepth 20000 in
theorem m_se_X5_ranks : Cond.selects RX5 yX5_ranks yX5_ranks ∈ lw_g := mg 780 (by decide +kernel) (by decide +kernel)
set_option maxRecDepth 20000 in
theorem m_co_X5_ranks : Cond.code yX5_ranks cX5_ranks 4 (some .int) ∈ lw_g := mg 781 rfl rfl
set_option maxRecDepth 20000 in
theorem m_ml_X5_164 : Cond.methodLink RX5 164 yX5_isSeen ∈ lw_g := mg 782 (by decide +kernel) (by decide +kernel)
set_option maxRecDepth 20000 in
theorem m_im_X5_isSeen : Cond.instanceMethod yX5_isSeen ∈ lw_g := mg 784 (by decide +kernel) (by decide +kernel)
set_option maxRecDepth 20000 in
theorem m_co_X5_isSeen : Cond.code yX5_isSeen cX5_isSeen 5 (some .boolean) ∈ lw_g := mg 785 rfl rfl
set_option maxRecDepth 20000 in
theorem m_ml_L_105 : Cond.methodLink RL 105 yX5_keep ∈ lw_g := mg 786 (by decide +kernel) (by decide +kernel)
set_option maxRecDepth 20000 in
theorem m_im_X5_keep : Cond.instanceMethod yX5_keep ∈ lw_g := mg 787 (by decide +kernel) (by decide +kernel)
set_option maxRecDepth 20000 in
theorem m_se_X5_keep : Cond.selects RX5 yX5_keep yX5_keep ∈ lw_g := mg 788 (by decide +kernel) (by decide +kernel)
set_option maxRecDepth 20000 in
theorem m_co_X5_keep : Cond.code yX5_keep cX5_keep 3 (some .int) ∈ lw_g := mg 789 rfl rfl
set_option maxRecDepth 20000 in
theorem m_ml_X5_167 : Cond.methodLink RX5 167 yX5_engines ∈ lw_g := mg 790 (by decide +kernel) (by decide +kernel)
set_option maxRecDepth 20000 in
theorem m_im_X5_engines : Cond.instanceMethod yX5_engines ∈ lw_g := mg 792 (by decide +kernel) (by decide +kernel)
set_option maxRecDepth 20000 in
theorem m_co_X5_engines : Cond.code yX5_engines cX5_engines 3 (some .int) ∈ lw_g := mg 793 rfl rfl
set_option maxRecDepth 20000 in
theorem m_ml_L_109 : Cond.methodLink RL 109 yX5_back ∈ lw_g := mg 794 (by decide +kernel) (by decide +kernel)
set_option maxRecDepth 20000 in
theorem m_im_X5_back : Cond.instanceMethod yX5_back ∈ lw_g := mg 795 (by decide +kernel) (by decide +kernel)
set_option maxRecDepth 20000 in
theorem m_se_X5_back : Cond.selects RX5 yX5_back yX5_back ∈ lw_g := mg 796 (by decide +kernel) (by decide +kernel)
set_option maxRecDepth 20000 in
theorem m_co_X5_back : Cond.code yX5_back cX5_back 3 (some .int) ∈ lw_g := mg 797 rfl rfl
set_option maxRecDepth 20000 in
theorem m_ml_L_113 : Cond.methodLink RL 113 yX5_count ∈ lw_g := mg 798 (by decide +kernel) (by decide +kernel)
set_option maxRecDepth 20000 in
theorem m_im_X5_count : Cond.instanceMethod yX5_count ∈ lw_g := mg 799 (by decide +kernel) (by decide +kernel)
set_option maxRecDepth 20000 in
theorem m_se_X5_count : Cond.selects RX5 yX5_count yX5_count ∈ lw_g := mg 800 (by decide +kernel) (by decide +kernel)
set_option maxRecDepth 20000 in
theorem m_co_X5_count : Cond.code yX5_count cX5_count 2 (some .int) ∈ lw_g := mg 801 rfl rfl
set_option maxRecDepth 20000 in
theorem m_us_X0 : ∀ w ∈ u_ws RX0 TX0 7, w ∈ lw_g := fun w h => List.mem_filter.mpr ⟨(by decide +kernel : ∀ w ∈ u_ws RX0 TX0 7, w ∈ lw_tbl) w h, (by decide +kernel : ∀ w ∈ u_ws RX0 TX0 7, goodWord w = true) w h⟩
set_option maxRecDepth 20000 in
theorem m_us_X1 : ∀ w ∈ u_ws RX1 TX1 3, w ∈ lw_g := fun w h => List.mem_filter.mpr ⟨(by decide +kernel : ∀ w ∈ u_ws RX1 TX1 3, w ∈ lw_tbl) w h, (by decide +kernel : ∀ w ∈ u_ws RX1 TX1 3, goodWord w = true) w h⟩
set_option maxRecDepth 20000 in
theorem m_us_X2 : ∀ w ∈ u_ws RX2 TX2 3, w ∈ lw_g := fun w h => List.mem_filter.mpr ⟨(by decide +kernel : ∀ w ∈ u_ws RX2 TX2 3, w ∈ lw_tbl) w h, (by decide +kernel : ∀ w ∈ u_ws RX2 TX2 3, goodWord w = true) w h⟩
set_option maxRecDepth 20000 in
theorem m_us_X3 : ∀ w ∈ u_ws RX3 TX3 6, w ∈ lw_g := fun w h => List.mem_filter.mpr ⟨(by decide +kernel : ∀ w ∈ u_ws RX3 TX3 6, w ∈ lw_tbl) w h, (by decide +kernel : ∀ w ∈ u_ws RX3 TX3 6, goodWord w = true) w h⟩
set_option maxRecDepth 20000 in
theorem m_us_X4 : ∀ w ∈ u_ws RX4 TX4 7, w ∈ lw_g := fun w h => List.mem_filter.mpr ⟨(by decide +kernel : ∀ w ∈ u_ws RX4 TX4 7, w ∈ lw_tbl) w h, (by decide +kernel : ∀ w ∈ u_ws RX4 TX4 7, goodWord w = true) w h⟩
set_option maxRecDepth 20000 in
theorem m_us_X5 : ∀ w ∈ u_ws RX5 TX5 17, w ∈ lw_g := fun w h => List.mem_filter.mpr ⟨(by decide +kernel : ∀ w ∈ u_ws RX5 TX5 17, w ∈ lw_tbl) w h, (by decide +kernel : ∀ w ∈ u_ws RX5 TX5 17, goodWord w = true) w h⟩
set_option maxRecDepth 20000 in
theorem gd_ok : GoodIn lw_tbl lw_g := fun w h => ⟨(List.mem_filter.mp h).1, good_of_word (List.mem_filter.mp h).2⟩
set_option maxRecDepth 20000 in
theorem gd_g : GoodIn lw_g lw_g := fun w h => ⟨h, good_of_word (List.mem_filter.mp h).2⟩
set_option maxRecDepth 20000 in
theorem gd_c {c : Cond} (hc : c ∈ lw_g) : GoodIn lw_g (c :: lw_g) := fun w h => (List.mem_cons.mp h).elim (fun e => by subst e; exact gd_g _ hc) (gd_g w)
end
section
/-! The frame: contracts 'Ct' over worlds, and a judgement 'J' whose arguments are pure data: a world, a pc, locals, a stack. -/
abbrev DX : Type := Launch × va_G × (ClassId × ClassId × ClassId) × List (String × String × String × Nat × Nat × (Nat → Int32))
abbrev dl (D : DX) : Launch := D.1
abbrev dG (D : DX) : va_G := D.2.1
abbrev dI (D : DX) : ClassId := D.2.2.1.1
abbrev dE (D : DX) : ClassId := D.2.2.1.2.1
abbrev dZ (D : DX) : ClassId := D.2.2.1.2.2
abbrev dT (D : DX) : List (ClassId × FieldType) := [(dI D, .int), (dE D, .object RX0), (dZ D, .boolean)]
def zOk (D : DX) (A : Nat → Prop) (U : State) (H : Heap) : Prop := ∀ q ∈ D.2.2.2, va_Z q.1 q.2.1 q.2.2.1 (.ref q.2.2.2.1) A U H ∧ va_T .int q.2.2.2.1 q.2.2.2.2.1 (fun k => .int (q.2.2.2.2.2 k)) A U H
def xOk (U : State) : Prop := va_Nw (.methodLinkNest RX3 66 yX4_within RX4) U ∧ va_AO RX0 U
def cQ (D : DX) (fin : Option Value → va_W → Prop) (A : Nat → Prop) : Array Value → State → Outcome → State → Prop := fun _ st oc t => (∃ (v : Option Value) (w' : va_W), oc = .returned v ∧ fin v w' ∧ va_P (dG D) classes w' t.heap ∧ va_D A w') ∧ va_F A st t
def cP (D : DX) (av : List Value) (w : va_W) (sz : Nat) : Array Value → State → Prop := va_Pc av (fun U => U.heap.size = sz ∧ va_P (dG D) classes w U.heap ∧ va_K (dG D) classes (dT D) U ∧ va_D (fun _ => True) w ∧ zOk D (va_A w sz) U U.heap ∧ xOk U)
/-- a method's contract: from any state that holds the world w it returns, and what it answers and the new world are as 'fin' tells -/
def Ct (D : DX) (y : MethodName) (b : ByteArray) (n : Nat) (r : Option FieldType) (rm : Room) (av : List Value) (w : va_W) (fin : Option Value → va_W → Prop) : Prop :=
  ∀ sz : Nat, Met (dl D) y (.code y b n r :: lw_g) rm (cP D av w sz) (cQ D fin (va_A w sz)) rm.cells rm.slots (va_A w sz)
abbrev GX : Type := Program × Env × State × MethodId × Array Value × List Frame × Method × Code × (Nat → Prop)
def Ok (D : DX) (Γ : GX) (y : MethodName) (cc : ByteArray) (nL : Nat) (ret : Option FieldType) : Prop :=
  match Γ with
  | (p, _, s, m, args, _, meth, c, A) => p.tables.exec = Jvm.exec ∧ c.code = cc ∧ meth.sig.returnType = ret ∧ c.maxLocals = nL ∧ s.vm.findClass y.cls = some m.cls ∧ (∀ w ∈ lw_g, w.before args s = true) ∧ meth.locks = false ∧ va_K (dG D) classes (dT D) s ∧ (∀ q, s.heap.size ≤ q → A q) ∧ meth.name = y.name ∧ zOk D A s s.heap ∧ xOk s
def Qf (D : DX) (Γ : GX) (R : Room) (fin : Option Value → va_W → Prop) : State → Prop := match Γ with
  | (_, _, s, _, args, below, _, _, A) => MQ below (cQ D fin A) args s R.cells R.slots A
def J (D : DX) (Γ : GX) (y : MethodName) (cc : ByteArray) (nL : Nat) (ret : Option FieldType) (R : Room) (Q : State → Prop) (k n : Nat) (w : va_W) (pc : Nat) (lv : List (Nat × Value)) (st : List Value) : Prop :=
  match Γ with
  | (p, e, s, m, args, below, meth, c, A) => Ok D (p, e, s, m, args, below, meth, c, A) y cc nL ret → ∀ (H : Heap) (locs : List Loc) (ls : Array Slot), va_P (dG D) classes w H → va_D A w → va_S A s.heap H locs → lv_has ls nL lv → W p (dl D) e R s m args below meth c H locs k n Q (F0 m pc ls st)
section FR1
variable {D : DX} {y : MethodName} {b : ByteArray} {nL : Nat} {r : Option FieldType} {rm : Room}
theorem ct_of {av : List Value} {w : va_W} {fin : Option Value → va_W → Prop} {lv0 : List (Nat × Value)} (hy : plainName y.cls = true) (hlen : (lg_sl av).length ≤ nL) (hlv : lv_args 0 av = lv0) (h : ∀ Γ : GX, J D Γ y b nL r rm (Qf D Γ rm fin) 0 0 w 0 lv0 []) : Ct D y b nL r rm av w fin := by
  intro sz
  refine Met.ofW (cc := b) (maxL := nL) (ret := r) hy rfl ?_
  intro p e s m args below meth c s₁ B hml hv
  obtain ⟨rfl, hsz, hP, hK, hD0, hZ, hX⟩ := hv
  subst hsz
  subst hlv
  have hD := hD0.self (sz := s.heap.size)
  have hts := atoms_spec (ws := .code y b nL r :: lw_g) B.pre
  have hl := lv_entry av (n := nL) hlen
  rw [lg_entry_eq]
  exact h (p, e, s, m, av.toArray, below, meth, c, va_A w s.heap.size) ⟨B.exec, B.bytes, B.returns, hml, findClass_of_methodNamed B.named, fun w hw => hts w (List.mem_cons_of_mem _ hw), B.notSynchronized, hK, fun q hq => Or.inr hq, (name_of_methodNamed B.named B.method).1, hZ, hX⟩ s.heap [] _ hP hD va_S.rf hl
theorem Ct.weaken {av : List Value} {w : va_W} {fin fin' : Option Value → va_W → Prop} (h : Ct D y b nL r rm av w fin) (hf : ∀ v w', fin v w' → fin' v w') : Ct D y b nL r rm av w fin' := by
  intro sz
  intro p e ha hc hk s m args below hfr happ hP hK
  obtain ⟨n, o, h1, h2, h3, ⟨⟨v, w', e1, e2, e3, e4⟩, hF⟩, hL⟩ := h sz p e ha hc hk s m args below hfr happ hP hK
  exact ⟨n, o, h1, h2, h3, ⟨⟨v, w', e1, hf v w' e2, e3, e4⟩, hF⟩, hL⟩
end FR1
/-! lists of cells -/
theorem wat {is : List Nat} {ws w : va_W} (hs : is.map (fun i => ws[i]?) = w.map some) (k : Nat) (q : Nat × va_E) (hq : w[k]? = some q) : ∃ i, is[k]? = some i ∧ ws[i]? = some q := by
  have h1 : (is.map (fun i => ws[i]?))[k]? = some (some q) := by rw [hs, List.getElem?_map, hq]; rfl
  rw [List.getElem?_map] at h1
  cases hi : is[k]? with
  | none => rw [hi] at h1; cases h1
  | some i => rw [hi] at h1; exact ⟨i, rfl, Option.some.inj h1⟩
def updw : va_W → List Nat → va_W → va_W
  | w, i :: is, q :: qs => updw (w.set i q) is qs
  | w, _, _ => w
theorem updw_at : ∀ (is : List Nat) (w w1 : va_W) (k : Nat) (q : Nat × va_E), (updw w is w1)[k]? = some q → is.length = w1.length → (∃ j : Nat, is[j]? = some k ∧ w1[j]? = some q) ∨ (k ∉ is ∧ w[k]? = some q)
  | [], w, w1, k, q, h, hl => by
    cases w1 with
    | nil => exact Or.inr ⟨List.not_mem_nil, h⟩
    | cons a t => simp at hl
  | i :: is, w, [], k, q, h, hl => by simp at hl
  | i :: is, w, a :: w1, k, q, h, hl => by
    rcases updw_at is (w.set i a) w1 k q h (by simpa using hl) with ⟨j, h1, h2⟩ | ⟨h1, h2⟩
    · exact Or.inl ⟨j + 1, h1, h2⟩
    · by_cases hk : k = i
      · subst hk
        rw [List.getElem?_set] at h2
        simp only [if_true] at h2
        split at h2
        · exact Or.inl ⟨0, rfl, h2⟩
        · cases h2
      · rw [List.getElem?_set_ne (fun e => hk e.symm)] at h2
        exact Or.inr ⟨fun hm => (List.mem_cons.mp hm).elim hk h1, h2⟩
theorem updw_addr : ∀ (is : List Nat) (w wc w1 : va_W), is.map (fun i => (w.map Prod.fst)[i]?) = (wc.map Prod.fst).map some → w1.map Prod.fst = wc.map Prod.fst → (updw w is w1).map Prod.fst = w.map Prod.fst
  | [], w, wc, w1, h, h1 => by cases w1 <;> rfl
  | i :: is, w, wc, [], h, h1 => rfl
  | i :: is, w, [], a :: w1, h, h1 => by simp at h1
  | i :: is, w, c :: wc, a :: w1, h, h1 => by
    simp only [List.map_cons, List.cons.injEq] at h h1
    have e : (w.set i a).map Prod.fst = w.map Prod.fst := by
      rw [List.map_set]
      apply List.ext_getElem?
      intro k
      rw [List.getElem?_set]
      by_cases hk : i = k
      · subst hk
        rw [if_pos rfl]
        rw [h.1, h1.1]
        have hlt : i < (w.map Prod.fst).length := by
          rcases Nat.lt_or_ge i (w.map Prod.fst).length with q | q
          · exact q
          · rw [List.getElem?_eq_none q] at h; cases h.1
        rw [if_pos hlt]
      · rw [if_neg hk]
    show (updw (w.set i a) is w1).map Prod.fst = w.map Prod.fst
    rw [updw_addr is (w.set i a) wc w1 (by rw [e]; exact h.2) h1.2, e]
theorem va_D_addr {A : Nat → Prop} {w w' : va_W} (h : va_D A w) (e : w'.map Prod.fst = w.map Prod.fst) : va_D A w' := by
  have at' : ∀ (k : Nat) (q : Nat × va_E), w'[k]? = some q → ∃ q', w[k]? = some q' ∧ q'.1 = q.1 := by
    intro k q hq
    have h1 : (w'.map Prod.fst)[k]? = some q.1 := by rw [List.getElem?_map, hq]; rfl
    rw [e, List.getElem?_map] at h1
    cases hw : w[k]? with
    | none => rw [hw] at h1; cases h1
    | some q' => rw [hw] at h1; exact ⟨q', rfl, Option.some.inj h1⟩
  refine ⟨fun i j p q hp hq hpq => ?_, fun k q hq => ?_⟩
  · obtain ⟨p', hp', ep⟩ := at' i p hp
    obtain ⟨q', hq', eq⟩ := at' j q hq
    exact h.1 i j p' q' hp' hq' (by rw [ep, eq, hpq])
  · obtain ⟨q', hq', eq⟩ := at' k q hq
    rw [← eq]; exact h.2 k q' hq'
/-- a cell's row may be told by another function that agrees in its range -/
theorem cell_cong {cA : ClassId} {n : Nat} {f g : Nat → Int32} (h : ∀ k, k < n → f k = g k) : vp_cell cA (n, .inl f) = vp_cell cA (n, .inl g) := by
  rw [vp_cell_i, vp_cell_i]
  unfold arrV
  have e : (fun j : Fin n => Value.int (f j.val)) = fun j => Value.int (g j.val) := funext fun j => by rw [h j.val j.isLt]
  rw [e]
end
section
section RU1
variable {D : DX} {Γ : GX} {y : MethodName} {cc : ByteArray} {nL : Nat} {ret : Option FieldType} {R : Room} {Q : State → Prop} {k n : Nat} {w : va_W} {pc : Nat} {lv : List (Nat × Value)} {st : List Value}

theorem j_iconst {z : Int} {v : Int32} (hdg : decode cc pc = .ok (.iconst z, 1)) (hv : Int32.ofInt z = v) (kk : J D Γ y cc nL ret R Q k n w (pc + 1) lv (.int v :: st)) : J D Γ y cc nL ret R Q k n w pc lv st := by
  obtain ⟨p, e, s, m, args, below, meth, c, A⟩ := Γ
  intro h H locs ls hP hD hS hl
  exact lv_iconst h.1 h.2.1 hdg hv (kk h H locs ls hP hD hS hl)
theorem j_bipush {z : Int} {v : Int32} (hdg : decode cc pc = .ok (.bipush z, 2)) (hv : (Int8.ofInt z).toInt32 = v) (kk : J D Γ y cc nL ret R Q k n w (pc + 2) lv (.int v :: st)) : J D Γ y cc nL ret R Q k n w pc lv st := by
  obtain ⟨p, e, s, m, args, below, meth, c, A⟩ := Γ
  intro h H locs ls hP hD hS hl
  exact lv_bipush h.1 h.2.1 hdg hv (kk h H locs ls hP hD hS hl)
theorem j_sipush {z : Int} {v : Int32} (hdg : decode cc pc = .ok (.sipush z, 3)) (hv : (Int16.ofInt z).toInt32 = v) (kk : J D Γ y cc nL ret R Q k n w (pc + 3) lv (.int v :: st)) : J D Γ y cc nL ret R Q k n w pc lv st := by
  obtain ⟨p, e, s, m, args, below, meth, c, A⟩ := Γ
  intro h H locs ls hP hD hS hl
  exact lv_sipush h.1 h.2.1 hdg hv (kk h H locs ls hP hD hS hl)
theorem j_lconst {z : Fin 2} {v : Int64} (hdg : decode cc pc = .ok (.lconst z, 1)) (hv : Int64.ofNat (z : Nat) = v) (kk : J D Γ y cc nL ret R Q k n w (pc + 1) lv (.long v :: st)) : J D Γ y cc nL ret R Q k n w pc lv st := by
  obtain ⟨p, e, s, m, args, below, meth, c, A⟩ := Γ
  intro h H locs ls hP hD hS hl
  exact lv_lconst h.1 h.2.1 hdg hv (kk h H locs ls hP hD hS hl)
theorem j_iload_n {j : Fin 4} {x : Int32} (hdg : decode cc pc = .ok (.iload_n j, 1)) (q : Nat) (hq : lv[q]? = some (j.val, .int x)) (kk : J D Γ y cc nL ret R Q k n w (pc + 1) lv (.int x :: st)) : J D Γ y cc nL ret R Q k n w pc lv st := by
  obtain ⟨p, e, s, m, args, below, meth, c, A⟩ := Γ
  intro h H locs ls hP hD hS hl
  exact lv_iload_n h.1 h.2.1 hdg rfl (lv_at hl q hq) (kk h H locs ls hP hD hS hl)
theorem j_iload {j : Nat} {x : Int32} (hdg : decode cc pc = .ok (.iload j, 2)) (q : Nat) (hq : lv[q]? = some (j, .int x)) (kk : J D Γ y cc nL ret R Q k n w (pc + 2) lv (.int x :: st)) : J D Γ y cc nL ret R Q k n w pc lv st := by
  obtain ⟨p, e, s, m, args, below, meth, c, A⟩ := Γ
  intro h H locs ls hP hD hS hl
  exact lv_iload h.1 h.2.1 hdg (lv_at hl q hq) (kk h H locs ls hP hD hS hl)
theorem j_lload_n {j : Fin 4} {x : Int64} (hdg : decode cc pc = .ok (.lload_n j, 1)) (q : Nat) (hq : lv[q]? = some (j.val, .long x)) (kk : J D Γ y cc nL ret R Q k n w (pc + 1) lv (.long x :: st)) : J D Γ y cc nL ret R Q k n w pc lv st := by
  obtain ⟨p, e, s, m, args, below, meth, c, A⟩ := Γ
  intro h H locs ls hP hD hS hl
  exact lv_lload_n h.1 h.2.1 hdg rfl (lv_at hl q hq) (kk h H locs ls hP hD hS hl)
theorem j_lload {j : Nat} {x : Int64} (hdg : decode cc pc = .ok (.lload j, 2)) (q : Nat) (hq : lv[q]? = some (j, .long x)) (kk : J D Γ y cc nL ret R Q k n w (pc + 2) lv (.long x :: st)) : J D Γ y cc nL ret R Q k n w pc lv st := by
  obtain ⟨p, e, s, m, args, below, meth, c, A⟩ := Γ
  intro h H locs ls hP hD hS hl
  exact lv_lload h.1 h.2.1 hdg (lv_at hl q hq) (kk h H locs ls hP hD hS hl)
theorem j_aload_n {j : Fin 4} {x : Nat} (hdg : decode cc pc = .ok (.aload_n j, 1)) (q : Nat) (hq : lv[q]? = some (j.val, .ref x)) (kk : J D Γ y cc nL ret R Q k n w (pc + 1) lv (.ref x :: st)) : J D Γ y cc nL ret R Q k n w pc lv st := by
  obtain ⟨p, e, s, m, args, below, meth, c, A⟩ := Γ
  intro h H locs ls hP hD hS hl
  exact lv_aload_n h.1 h.2.1 hdg rfl (lv_at hl q hq) (kk h H locs ls hP hD hS hl)
theorem j_aload {j : Nat} {x : Nat} (hdg : decode cc pc = .ok (.aload j, 2)) (q : Nat) (hq : lv[q]? = some (j, .ref x)) (kk : J D Γ y cc nL ret R Q k n w (pc + 2) lv (.ref x :: st)) : J D Γ y cc nL ret R Q k n w pc lv st := by
  obtain ⟨p, e, s, m, args, below, meth, c, A⟩ := Γ
  intro h H locs ls hP hD hS hl
  exact lv_aload h.1 h.2.1 hdg (lv_at hl q hq) (kk h H locs ls hP hD hS hl)
theorem j_istore_n {j : Fin 4} {x : Int32} {lv2 : List (Nat × Value)} (hdg : decode cc pc = .ok (.istore_n j, 1)) (hn : j.val < nL) (ks : List Nat) (hk : lv_pick ((j.val, .int x) :: lv.filter (fun q => !(q.1 == j.val) && !(q.1 + 1 == j.val && q.2.category == 2))) ks = lv2) (kk : J D Γ y cc nL ret R Q k n w (pc + 1) lv2 st) : J D Γ y cc nL ret R Q k n w pc lv (.int x :: st) := by
  obtain ⟨p, e, s, m, args, below, meth, c, A⟩ := Γ
  intro h H locs ls hP hD hS hl
  exact lv_istore_n h.1 h.2.1 hdg rfl hl hn rfl (fun ls hl => kk h H locs ls hP hD hS (lv_sub hl ks hk))
theorem j_istore {j : Nat} {x : Int32} {lv2 : List (Nat × Value)} (hdg : decode cc pc = .ok (.istore j, 2)) (hn : j < nL) (ks : List Nat) (hk : lv_pick ((j, .int x) :: lv.filter (fun q => !(q.1 == j) && !(q.1 + 1 == j && q.2.category == 2))) ks = lv2) (kk : J D Γ y cc nL ret R Q k n w (pc + 2) lv2 st) : J D Γ y cc nL ret R Q k n w pc lv (.int x :: st) := by
  obtain ⟨p, e, s, m, args, below, meth, c, A⟩ := Γ
  intro h H locs ls hP hD hS hl
  exact lv_istore h.1 h.2.1 hdg hl hn rfl (fun ls hl => kk h H locs ls hP hD hS (lv_sub hl ks hk))
theorem j_lstore_n {j : Fin 4} {x : Int64} {lv2 : List (Nat × Value)} (hdg : decode cc pc = .ok (.lstore_n j, 1)) (hn : j.val + 1 < nL) (ks : List Nat) (hk : lv_pick ((j.val, .long x) :: lv.filter (fun q => !(q.1 == j.val) && (!(q.1 == j.val + 1) && !(q.1 + 1 == j.val && q.2.category == 2)))) ks = lv2) (kk : J D Γ y cc nL ret R Q k n w (pc + 1) lv2 st) : J D Γ y cc nL ret R Q k n w pc lv (.long x :: st) := by
  obtain ⟨p, e, s, m, args, below, meth, c, A⟩ := Γ
  intro h H locs ls hP hD hS hl
  exact lv_lstore_n h.1 h.2.1 hdg rfl hl hn rfl (fun ls hl => kk h H locs ls hP hD hS (lv_sub hl ks hk))
theorem j_lstore {j : Nat} {x : Int64} {lv2 : List (Nat × Value)} (hdg : decode cc pc = .ok (.lstore j, 2)) (hn : j + 1 < nL) (ks : List Nat) (hk : lv_pick ((j, .long x) :: lv.filter (fun q => !(q.1 == j) && (!(q.1 == j + 1) && !(q.1 + 1 == j && q.2.category == 2)))) ks = lv2) (kk : J D Γ y cc nL ret R Q k n w (pc + 2) lv2 st) : J D Γ y cc nL ret R Q k n w pc lv (.long x :: st) := by
  obtain ⟨p, e, s, m, args, below, meth, c, A⟩ := Γ
  intro h H locs ls hP hD hS hl
  exact lv_lstore h.1 h.2.1 hdg hl hn rfl (fun ls hl => kk h H locs ls hP hD hS (lv_sub hl ks hk))
theorem j_astore_n {j : Fin 4} {x : Nat} {lv2 : List (Nat × Value)} (hdg : decode cc pc = .ok (.astore_n j, 1)) (hn : j.val < nL) (ks : List Nat) (hk : lv_pick ((j.val, .ref x) :: lv.filter (fun q => !(q.1 == j.val) && !(q.1 + 1 == j.val && q.2.category == 2))) ks = lv2) (kk : J D Γ y cc nL ret R Q k n w (pc + 1) lv2 st) : J D Γ y cc nL ret R Q k n w pc lv (.ref x :: st) := by
  obtain ⟨p, e, s, m, args, below, meth, c, A⟩ := Γ
  intro h H locs ls hP hD hS hl
  exact lv_astore_n h.1 h.2.1 hdg rfl hl hn rfl (fun ls hl => kk h H locs ls hP hD hS (lv_sub hl ks hk))
theorem j_astore {j : Nat} {x : Nat} {lv2 : List (Nat × Value)} (hdg : decode cc pc = .ok (.astore j, 2)) (hn : j < nL) (ks : List Nat) (hk : lv_pick ((j, .ref x) :: lv.filter (fun q => !(q.1 == j) && !(q.1 + 1 == j && q.2.category == 2))) ks = lv2) (kk : J D Γ y cc nL ret R Q k n w (pc + 2) lv2 st) : J D Γ y cc nL ret R Q k n w pc lv (.ref x :: st) := by
  obtain ⟨p, e, s, m, args, below, meth, c, A⟩ := Γ
  intro h H locs ls hP hD hS hl
  exact lv_astore h.1 h.2.1 hdg hl hn rfl (fun ls hl => kk h H locs ls hP hD hS (lv_sub hl ks hk))
theorem j_iinc {j q : Nat} {z : Int} {x v : Int32} {lv2 : List (Nat × Value)} (hdg : decode cc pc = .ok (.iinc j z, 3)) (q : Nat) (hq : lv[q]? = some (j, .int x)) (hv : x + Int32.ofInt z = v) (hn : j < nL) (ks : List Nat) (hk : lv_pick ((j, .int v) :: lv.filter (fun q => !(q.1 == j) && !(q.1 + 1 == j && q.2.category == 2))) ks = lv2) (kk : J D Γ y cc nL ret R Q k n w (pc + 3) lv2 st) : J D Γ y cc nL ret R Q k n w pc lv st := by
  obtain ⟨p, e, s, m, args, below, meth, c, A⟩ := Γ
  intro h H locs ls hP hD hS hl
  exact lv_iinc h.1 h.2.1 hdg hl hq hv hn rfl (fun ls hl => kk h H locs ls hP hD hS (lv_sub hl ks hk))
theorem j_iadd {x z v : Int32} (hdg : decode cc pc = .ok (.iadd, 1)) (hv : x + z = v) (kk : J D Γ y cc nL ret R Q k n w (pc + 1) lv (.int v :: st)) : J D Γ y cc nL ret R Q k n w pc lv (.int z :: .int x :: st) := by
  obtain ⟨p, e, s, m, args, below, meth, c, A⟩ := Γ
  intro h H locs ls hP hD hS hl
  exact lv_iadd h.1 h.2.1 hdg (by rw [hv]; exact (kk h H locs ls hP hD hS hl))
theorem j_isub {x z v : Int32} (hdg : decode cc pc = .ok (.isub, 1)) (hv : x - z = v) (kk : J D Γ y cc nL ret R Q k n w (pc + 1) lv (.int v :: st)) : J D Γ y cc nL ret R Q k n w pc lv (.int z :: .int x :: st) := by
  obtain ⟨p, e, s, m, args, below, meth, c, A⟩ := Γ
  intro h H locs ls hP hD hS hl
  exact lv_isub h.1 h.2.1 hdg (by rw [hv]; exact (kk h H locs ls hP hD hS hl))
theorem j_imul {x z v : Int32} (hdg : decode cc pc = .ok (.imul, 1)) (hv : x * z = v) (kk : J D Γ y cc nL ret R Q k n w (pc + 1) lv (.int v :: st)) : J D Γ y cc nL ret R Q k n w pc lv (.int z :: .int x :: st) := by
  obtain ⟨p, e, s, m, args, below, meth, c, A⟩ := Γ
  intro h H locs ls hP hD hS hl
  exact lv_imul h.1 h.2.1 hdg (by rw [hv]; exact (kk h H locs ls hP hD hS hl))
theorem j_iand {x z v : Int32} (hdg : decode cc pc = .ok (.iand, 1)) (hv : x &&& z = v) (kk : J D Γ y cc nL ret R Q k n w (pc + 1) lv (.int v :: st)) : J D Γ y cc nL ret R Q k n w pc lv (.int z :: .int x :: st) := by
  obtain ⟨p, e, s, m, args, below, meth, c, A⟩ := Γ
  intro h H locs ls hP hD hS hl
  exact lv_iand h.1 h.2.1 hdg (by rw [hv]; exact (kk h H locs ls hP hD hS hl))
theorem j_ior {x z v : Int32} (hdg : decode cc pc = .ok (.ior, 1)) (hv : x ||| z = v) (kk : J D Γ y cc nL ret R Q k n w (pc + 1) lv (.int v :: st)) : J D Γ y cc nL ret R Q k n w pc lv (.int z :: .int x :: st) := by
  obtain ⟨p, e, s, m, args, below, meth, c, A⟩ := Γ
  intro h H locs ls hP hD hS hl
  exact lv_ior h.1 h.2.1 hdg (by rw [hv]; exact (kk h H locs ls hP hD hS hl))
theorem j_ixor {x z v : Int32} (hdg : decode cc pc = .ok (.ixor, 1)) (hv : x ^^^ z = v) (kk : J D Γ y cc nL ret R Q k n w (pc + 1) lv (.int v :: st)) : J D Γ y cc nL ret R Q k n w pc lv (.int z :: .int x :: st) := by
  obtain ⟨p, e, s, m, args, below, meth, c, A⟩ := Γ
  intro h H locs ls hP hD hS hl
  exact lv_ixor h.1 h.2.1 hdg (by rw [hv]; exact (kk h H locs ls hP hD hS hl))
theorem j_ladd {x z v : Int64} (hdg : decode cc pc = .ok (.ladd, 1)) (hv : x + z = v) (kk : J D Γ y cc nL ret R Q k n w (pc + 1) lv (.long v :: st)) : J D Γ y cc nL ret R Q k n w pc lv (.long z :: .long x :: st) := by
  obtain ⟨p, e, s, m, args, below, meth, c, A⟩ := Γ
  intro h H locs ls hP hD hS hl
  exact lv_ladd h.1 h.2.1 hdg (by rw [hv]; exact (kk h H locs ls hP hD hS hl))
theorem j_lsub {x z v : Int64} (hdg : decode cc pc = .ok (.lsub, 1)) (hv : x - z = v) (kk : J D Γ y cc nL ret R Q k n w (pc + 1) lv (.long v :: st)) : J D Γ y cc nL ret R Q k n w pc lv (.long z :: .long x :: st) := by
  obtain ⟨p, e, s, m, args, below, meth, c, A⟩ := Γ
  intro h H locs ls hP hD hS hl
  exact lv_lsub h.1 h.2.1 hdg (by rw [hv]; exact (kk h H locs ls hP hD hS hl))
theorem j_land {x z v : Int64} (hdg : decode cc pc = .ok (.land, 1)) (hv : x &&& z = v) (kk : J D Γ y cc nL ret R Q k n w (pc + 1) lv (.long v :: st)) : J D Γ y cc nL ret R Q k n w pc lv (.long z :: .long x :: st) := by
  obtain ⟨p, e, s, m, args, below, meth, c, A⟩ := Γ
  intro h H locs ls hP hD hS hl
  exact lv_land h.1 h.2.1 hdg (by rw [hv]; exact (kk h H locs ls hP hD hS hl))
theorem j_lor {x z v : Int64} (hdg : decode cc pc = .ok (.lor, 1)) (hv : x ||| z = v) (kk : J D Γ y cc nL ret R Q k n w (pc + 1) lv (.long v :: st)) : J D Γ y cc nL ret R Q k n w pc lv (.long z :: .long x :: st) := by
  obtain ⟨p, e, s, m, args, below, meth, c, A⟩ := Γ
  intro h H locs ls hP hD hS hl
  exact lv_lor h.1 h.2.1 hdg (by rw [hv]; exact (kk h H locs ls hP hD hS hl))
theorem j_idiv {x z v : Int32} (hdg : decode cc pc = .ok (.idiv, 1)) (hne : ¬ z = 0) (hv : x / z = v) (kk : J D Γ y cc nL ret R Q k n w (pc + 1) lv (.int v :: st)) : J D Γ y cc nL ret R Q k n w pc lv (.int z :: .int x :: st) := by
  obtain ⟨p, e, s, m, args, below, meth, c, A⟩ := Γ
  intro h H locs ls hP hD hS hl
  exact lv_idiv h.1 h.2.1 hdg hne (by rw [hv]; exact (kk h H locs ls hP hD hS hl))
theorem j_irem {x z v : Int32} (hdg : decode cc pc = .ok (.irem, 1)) (hne : ¬ z = 0) (hv : x - x / z * z = v) (kk : J D Γ y cc nL ret R Q k n w (pc + 1) lv (.int v :: st)) : J D Γ y cc nL ret R Q k n w pc lv (.int z :: .int x :: st) := by
  obtain ⟨p, e, s, m, args, below, meth, c, A⟩ := Γ
  intro h H locs ls hP hD hS hl
  exact lv_irem h.1 h.2.1 hdg hne (by rw [hv]; exact (kk h H locs ls hP hD hS hl))
theorem j_ineg {x v : Int32} (hdg : decode cc pc = .ok (.ineg, 1)) (hv : -x = v) (kk : J D Γ y cc nL ret R Q k n w (pc + 1) lv (.int v :: st)) : J D Γ y cc nL ret R Q k n w pc lv (.int x :: st) := by
  obtain ⟨p, e, s, m, args, below, meth, c, A⟩ := Γ
  intro h H locs ls hP hD hS hl
  exact lv_ineg h.1 h.2.1 hdg (by rw [hv]; exact (kk h H locs ls hP hD hS hl))
theorem j_ishl {x z v : Int32} (hdg : decode cc pc = .ok (.ishl, 1)) (hv : x <<< (z &&& 31) = v) (kk : J D Γ y cc nL ret R Q k n w (pc + 1) lv (.int v :: st)) : J D Γ y cc nL ret R Q k n w pc lv (.int z :: .int x :: st) := by
  obtain ⟨p, e, s, m, args, below, meth, c, A⟩ := Γ
  intro h H locs ls hP hD hS hl
  exact lv_ishl h.1 h.2.1 hdg (by rw [hv]; exact (kk h H locs ls hP hD hS hl))
theorem j_lushr {x v : Int64} {z : Int32} (hdg : decode cc pc = .ok (.lushr, 1)) (hv : (x.toUInt64 >>> (z.toInt64.toUInt64 &&& Int64.toUInt64 63)).toInt64 = v) (kk : J D Γ y cc nL ret R Q k n w (pc + 1) lv (.long v :: st)) : J D Γ y cc nL ret R Q k n w pc lv (.int z :: .long x :: st) := by
  obtain ⟨p, e, s, m, args, below, meth, c, A⟩ := Γ
  intro h H locs ls hP hD hS hl
  exact lv_lushr h.1 h.2.1 hdg hv (kk h H locs ls hP hD hS hl)
theorem j_lshl {x v : Int64} {z : Int32} (hdg : decode cc pc = .ok (.lshl, 1)) (hv : x <<< (z.toInt64 &&& 63) = v) (kk : J D Γ y cc nL ret R Q k n w (pc + 1) lv (.long v :: st)) : J D Γ y cc nL ret R Q k n w pc lv (.int z :: .long x :: st) := by
  obtain ⟨p, e, s, m, args, below, meth, c, A⟩ := Γ
  intro h H locs ls hP hD hS hl
  exact lv_lshl h.1 h.2.1 hdg hv (kk h H locs ls hP hD hS hl)
theorem j_lshr {x v : Int64} {z : Int32} (hdg : decode cc pc = .ok (.lshr, 1)) (hv : x >>> (z.toInt64 &&& 63) = v) (kk : J D Γ y cc nL ret R Q k n w (pc + 1) lv (.long v :: st)) : J D Γ y cc nL ret R Q k n w pc lv (.int z :: .long x :: st) := by
  obtain ⟨p, e, s, m, args, below, meth, c, A⟩ := Γ
  intro h H locs ls hP hD hS hl
  exact lv_lshr h.1 h.2.1 hdg hv (kk h H locs ls hP hD hS hl)
theorem j_l2i {x : Int64} {v : Int32} (hdg : decode cc pc = .ok (.l2i, 1)) (hv : x.toInt32 = v) (kk : J D Γ y cc nL ret R Q k n w (pc + 1) lv (.int v :: st)) : J D Γ y cc nL ret R Q k n w pc lv (.long x :: st) := by
  obtain ⟨p, e, s, m, args, below, meth, c, A⟩ := Γ
  intro h H locs ls hP hD hS hl
  exact lv_l2i h.1 h.2.1 hdg hv (kk h H locs ls hP hD hS hl)
theorem j_dup {va : Value} (hdg : decode cc pc = .ok (.dup, 1)) (hva : va.category = 1) (kk : J D Γ y cc nL ret R Q k n w (pc + 1) lv (va :: va :: st)) : J D Γ y cc nL ret R Q k n w pc lv (va :: st) := by
  obtain ⟨p, e, s, m, args, below, meth, c, A⟩ := Γ
  intro h H locs ls hP hD hS hl
  exact lv_dup h.1 h.2.1 hdg hva (kk h H locs ls hP hD hS hl)
theorem j_pop {va : Value} (hdg : decode cc pc = .ok (.pop, 1)) (hva : va.category = 1) (kk : J D Γ y cc nL ret R Q k n w (pc + 1) lv st) : J D Γ y cc nL ret R Q k n w pc lv (va :: st) := by
  obtain ⟨p, e, s, m, args, below, meth, c, A⟩ := Γ
  intro h H locs ls hP hD hS hl
  exact lv_pop h.1 h.2.1 hdg hva (kk h H locs ls hP hD hS hl)
theorem j_dup2 {va vb : Value} (hdg : decode cc pc = .ok (.dup2, 1)) (hva : va.category = 1) (hvb : vb.category = 1) (kk : J D Γ y cc nL ret R Q k n w (pc + 1) lv (va :: vb :: va :: vb :: st)) : J D Γ y cc nL ret R Q k n w pc lv (va :: vb :: st) := by
  obtain ⟨p, e, s, m, args, below, meth, c, A⟩ := Γ
  intro h H locs ls hP hD hS hl
  exact lv_dup2_11 h.1 h.2.1 hdg hva hvb (kk h H locs ls hP hD hS hl)
-- if_eq ::     (kt : x = 0 → W p l e R s m args below meth c H locs cells slots Q (F0 m tgt ls rest)) (kf : ¬ x = 0 → W p l e R s m args below meth c H locs cells slots Q (F0 m (pc + 3) ls rest)) : W p l e R s m args below meth c H locs cells slots Q (F0 m pc ls (.int x 
theorem j_if_eq {x : Int32} {off : Int} {tgt : Nat} (hdg : decode cc pc = .ok (.ifCond .eq off, 3)) (ht : (pc : Int) + off = (tgt : Int)) (k1 : x = 0 → J D Γ y cc nL ret R Q k n w tgt lv st) (k2 : ¬ x = 0 → J D Γ y cc nL ret R Q k n w (pc + 3) lv st) : J D Γ y cc nL ret R Q k n w pc lv (.int x :: st) := by
  obtain ⟨p, e, s, m, args, below, meth, c, A⟩ := Γ
  intro h H locs ls hP hD hS hl
  exact lv_if_eq h.1 h.2.1 hdg ht (fun q => k1 q h H locs ls hP hD hS hl) (fun q => k2 q h H locs ls hP hD hS hl)
-- icmp_eq ::     (kt : x = y → W p l e R s m args below meth c H locs cells slots Q (F0 m tgt ls rest)) (kf : ¬ x = y → W p l e R s m args below meth c H locs cells slots Q (F0 m (pc + 3) ls rest)) : W p l e R s m args below meth c H locs cells slots Q (F0 m pc ls (.int y 
theorem j_icmp_eq {x z : Int32} {off : Int} {tgt : Nat} (hdg : decode cc pc = .ok (.if_icmp .eq off, 3)) (ht : (pc : Int) + off = (tgt : Int)) (k1 : x = z → J D Γ y cc nL ret R Q k n w tgt lv st) (k2 : ¬ x = z → J D Γ y cc nL ret R Q k n w (pc + 3) lv st) : J D Γ y cc nL ret R Q k n w pc lv (.int z :: .int x :: st) := by
  obtain ⟨p, e, s, m, args, below, meth, c, A⟩ := Γ
  intro h H locs ls hP hD hS hl
  exact lv_icmp_eq h.1 h.2.1 hdg ht (fun q => k1 q h H locs ls hP hD hS hl) (fun q => k2 q h H locs ls hP hD hS hl)
-- if_ne ::     (kt : ¬ x = 0 → W p l e R s m args below meth c H locs cells slots Q (F0 m tgt ls rest)) (kf : x = 0 → W p l e R s m args below meth c H locs cells slots Q (F0 m (pc + 3) ls rest)) : W p l e R s m args below meth c H locs cells slots Q (F0 m pc ls (.int x 
theorem j_if_ne {x : Int32} {off : Int} {tgt : Nat} (hdg : decode cc pc = .ok (.ifCond .ne off, 3)) (ht : (pc : Int) + off = (tgt : Int)) (k1 : ¬ x = 0 → J D Γ y cc nL ret R Q k n w tgt lv st) (k2 : x = 0 → J D Γ y cc nL ret R Q k n w (pc + 3) lv st) : J D Γ y cc nL ret R Q k n w pc lv (.int x :: st) := by
  obtain ⟨p, e, s, m, args, below, meth, c, A⟩ := Γ
  intro h H locs ls hP hD hS hl
  exact lv_if_ne h.1 h.2.1 hdg ht (fun q => k1 q h H locs ls hP hD hS hl) (fun q => k2 q h H locs ls hP hD hS hl)
-- icmp_ne ::     (kt : ¬ x = y → W p l e R s m args below meth c H locs cells slots Q (F0 m tgt ls rest)) (kf : x = y → W p l e R s m args below meth c H locs cells slots Q (F0 m (pc + 3) ls rest)) : W p l e R s m args below meth c H locs cells slots Q (F0 m pc ls (.int y 
theorem j_icmp_ne {x z : Int32} {off : Int} {tgt : Nat} (hdg : decode cc pc = .ok (.if_icmp .ne off, 3)) (ht : (pc : Int) + off = (tgt : Int)) (k1 : ¬ x = z → J D Γ y cc nL ret R Q k n w tgt lv st) (k2 : x = z → J D Γ y cc nL ret R Q k n w (pc + 3) lv st) : J D Γ y cc nL ret R Q k n w pc lv (.int z :: .int x :: st) := by
  obtain ⟨p, e, s, m, args, below, meth, c, A⟩ := Γ
  intro h H locs ls hP hD hS hl
  exact lv_icmp_ne h.1 h.2.1 hdg ht (fun q => k1 q h H locs ls hP hD hS hl) (fun q => k2 q h H locs ls hP hD hS hl)
-- if_lt ::     (kt : x < 0 → W p l e R s m args below meth c H locs cells slots Q (F0 m tgt ls rest)) (kf : ¬ x < 0 → W p l e R s m args below meth c H locs cells slots Q (F0 m (pc + 3) ls rest)) : W p l e R s m args below meth c H locs cells slots Q (F0 m pc ls (.int x 
theorem j_if_lt {x : Int32} {off : Int} {tgt : Nat} (hdg : decode cc pc = .ok (.ifCond .lt off, 3)) (ht : (pc : Int) + off = (tgt : Int)) (k1 : x < 0 → J D Γ y cc nL ret R Q k n w tgt lv st) (k2 : ¬ x < 0 → J D Γ y cc nL ret R Q k n w (pc + 3) lv st) : J D Γ y cc nL ret R Q k n w pc lv (.int x :: st) := by
  obtain ⟨p, e, s, m, args, below, meth, c, A⟩ := Γ
  intro h H locs ls hP hD hS hl
  exact lv_if_lt h.1 h.2.1 hdg ht (fun q => k1 q h H locs ls hP hD hS hl) (fun q => k2 q h H locs ls hP hD hS hl)
-- icmp_lt ::     (kt : x < y → W p l e R s m args below meth c H locs cells slots Q (F0 m tgt ls rest)) (kf : ¬ x < y → W p l e R s m args below meth c H locs cells slots Q (F0 m (pc + 3) ls rest)) : W p l e R s m args below meth c H locs cells slots Q (F0 m pc ls (.int y 
theorem j_icmp_lt {x z : Int32} {off : Int} {tgt : Nat} (hdg : decode cc pc = .ok (.if_icmp .lt off, 3)) (ht : (pc : Int) + off = (tgt : Int)) (k1 : x < z → J D Γ y cc nL ret R Q k n w tgt lv st) (k2 : ¬ x < z → J D Γ y cc nL ret R Q k n w (pc + 3) lv st) : J D Γ y cc nL ret R Q k n w pc lv (.int z :: .int x :: st) := by
  obtain ⟨p, e, s, m, args, below, meth, c, A⟩ := Γ
  intro h H locs ls hP hD hS hl
  exact lv_icmp_lt h.1 h.2.1 hdg ht (fun q => k1 q h H locs ls hP hD hS hl) (fun q => k2 q h H locs ls hP hD hS hl)
-- if_ge ::     (kt : 0 ≤ x → W p l e R s m args below meth c H locs cells slots Q (F0 m tgt ls rest)) (kf : ¬ 0 ≤ x → W p l e R s m args below meth c H locs cells slots Q (F0 m (pc + 3) ls rest)) : W p l e R s m args below meth c H locs cells slots Q (F0 m pc ls (.int x 
theorem j_if_ge {x : Int32} {off : Int} {tgt : Nat} (hdg : decode cc pc = .ok (.ifCond .ge off, 3)) (ht : (pc : Int) + off = (tgt : Int)) (k1 : 0 ≤ x → J D Γ y cc nL ret R Q k n w tgt lv st) (k2 : ¬ 0 ≤ x → J D Γ y cc nL ret R Q k n w (pc + 3) lv st) : J D Γ y cc nL ret R Q k n w pc lv (.int x :: st) := by
  obtain ⟨p, e, s, m, args, below, meth, c, A⟩ := Γ
  intro h H locs ls hP hD hS hl
  exact lv_if_ge h.1 h.2.1 hdg ht (fun q => k1 q h H locs ls hP hD hS hl) (fun q => k2 q h H locs ls hP hD hS hl)
-- icmp_ge ::     (kt : y ≤ x → W p l e R s m args below meth c H locs cells slots Q (F0 m tgt ls rest)) (kf : ¬ y ≤ x → W p l e R s m args below meth c H locs cells slots Q (F0 m (pc + 3) ls rest)) : W p l e R s m args below meth c H locs cells slots Q (F0 m pc ls (.int y 
theorem j_icmp_ge {x z : Int32} {off : Int} {tgt : Nat} (hdg : decode cc pc = .ok (.if_icmp .ge off, 3)) (ht : (pc : Int) + off = (tgt : Int)) (k1 : z ≤ x → J D Γ y cc nL ret R Q k n w tgt lv st) (k2 : ¬ z ≤ x → J D Γ y cc nL ret R Q k n w (pc + 3) lv st) : J D Γ y cc nL ret R Q k n w pc lv (.int z :: .int x :: st) := by
  obtain ⟨p, e, s, m, args, below, meth, c, A⟩ := Γ
  intro h H locs ls hP hD hS hl
  exact lv_icmp_ge h.1 h.2.1 hdg ht (fun q => k1 q h H locs ls hP hD hS hl) (fun q => k2 q h H locs ls hP hD hS hl)
-- if_gt ::     (kt : 0 < x → W p l e R s m args below meth c H locs cells slots Q (F0 m tgt ls rest)) (kf : ¬ 0 < x → W p l e R s m args below meth c H locs cells slots Q (F0 m (pc + 3) ls rest)) : W p l e R s m args below meth c H locs cells slots Q (F0 m pc ls (.int x 
theorem j_if_gt {x : Int32} {off : Int} {tgt : Nat} (hdg : decode cc pc = .ok (.ifCond .gt off, 3)) (ht : (pc : Int) + off = (tgt : Int)) (k1 : 0 < x → J D Γ y cc nL ret R Q k n w tgt lv st) (k2 : ¬ 0 < x → J D Γ y cc nL ret R Q k n w (pc + 3) lv st) : J D Γ y cc nL ret R Q k n w pc lv (.int x :: st) := by
  obtain ⟨p, e, s, m, args, below, meth, c, A⟩ := Γ
  intro h H locs ls hP hD hS hl
  exact lv_if_gt h.1 h.2.1 hdg ht (fun q => k1 q h H locs ls hP hD hS hl) (fun q => k2 q h H locs ls hP hD hS hl)
-- icmp_gt ::     (kt : y < x → W p l e R s m args below meth c H locs cells slots Q (F0 m tgt ls rest)) (kf : ¬ y < x → W p l e R s m args below meth c H locs cells slots Q (F0 m (pc + 3) ls rest)) : W p l e R s m args below meth c H locs cells slots Q (F0 m pc ls (.int y 
theorem j_icmp_gt {x z : Int32} {off : Int} {tgt : Nat} (hdg : decode cc pc = .ok (.if_icmp .gt off, 3)) (ht : (pc : Int) + off = (tgt : Int)) (k1 : z < x → J D Γ y cc nL ret R Q k n w tgt lv st) (k2 : ¬ z < x → J D Γ y cc nL ret R Q k n w (pc + 3) lv st) : J D Γ y cc nL ret R Q k n w pc lv (.int z :: .int x :: st) := by
  obtain ⟨p, e, s, m, args, below, meth, c, A⟩ := Γ
  intro h H locs ls hP hD hS hl
  exact lv_icmp_gt h.1 h.2.1 hdg ht (fun q => k1 q h H locs ls hP hD hS hl) (fun q => k2 q h H locs ls hP hD hS hl)
-- if_le ::     (kt : x ≤ 0 → W p l e R s m args below meth c H locs cells slots Q (F0 m tgt ls rest)) (kf : ¬ x ≤ 0 → W p l e R s m args below meth c H locs cells slots Q (F0 m (pc + 3) ls rest)) : W p l e R s m args below meth c H locs cells slots Q (F0 m pc ls (.int x 
theorem j_if_le {x : Int32} {off : Int} {tgt : Nat} (hdg : decode cc pc = .ok (.ifCond .le off, 3)) (ht : (pc : Int) + off = (tgt : Int)) (k1 : x ≤ 0 → J D Γ y cc nL ret R Q k n w tgt lv st) (k2 : ¬ x ≤ 0 → J D Γ y cc nL ret R Q k n w (pc + 3) lv st) : J D Γ y cc nL ret R Q k n w pc lv (.int x :: st) := by
  obtain ⟨p, e, s, m, args, below, meth, c, A⟩ := Γ
  intro h H locs ls hP hD hS hl
  exact lv_if_le h.1 h.2.1 hdg ht (fun q => k1 q h H locs ls hP hD hS hl) (fun q => k2 q h H locs ls hP hD hS hl)
-- icmp_le ::     (kt : x ≤ y → W p l e R s m args below meth c H locs cells slots Q (F0 m tgt ls rest)) (kf : ¬ x ≤ y → W p l e R s m args below meth c H locs cells slots Q (F0 m (pc + 3) ls rest)) : W p l e R s m args below meth c H locs cells slots Q (F0 m pc ls (.int y 
theorem j_icmp_le {x z : Int32} {off : Int} {tgt : Nat} (hdg : decode cc pc = .ok (.if_icmp .le off, 3)) (ht : (pc : Int) + off = (tgt : Int)) (k1 : x ≤ z → J D Γ y cc nL ret R Q k n w tgt lv st) (k2 : ¬ x ≤ z → J D Γ y cc nL ret R Q k n w (pc + 3) lv st) : J D Γ y cc nL ret R Q k n w pc lv (.int z :: .int x :: st) := by
  obtain ⟨p, e, s, m, args, below, meth, c, A⟩ := Γ
  intro h H locs ls hP hD hS hl
  exact lv_icmp_le h.1 h.2.1 hdg ht (fun q => k1 q h H locs ls hP hD hS hl) (fun q => k2 q h H locs ls hP hD hS hl)
theorem j_goto {off : Int} {tgt : Nat} (hdg : decode cc pc = .ok (.goto off, 3)) (ht : (pc : Int) + off = (tgt : Int)) (kk : J D Γ y cc nL ret R Q k n w tgt lv st) : J D Γ y cc nL ret R Q k n w pc lv st := by
  obtain ⟨p, e, s, m, args, below, meth, c, A⟩ := Γ
  intro h H locs ls hP hD hS hl
  exact lv_goto h.1 h.2.1 hdg ht (kk h H locs ls hP hD hS hl)
theorem j_topi {x v : Int32} (hv : x = v) (kk : J D Γ y cc nL ret R Q k n w pc lv (.int v :: st)) : J D Γ y cc nL ret R Q k n w pc lv (.int x :: st) := by subst hv; exact kk
theorem j_topl {x v : Int64} (hv : x = v) (kk : J D Γ y cc nL ret R Q k n w pc lv (.long v :: st)) : J D Γ y cc nL ret R Q k n w pc lv (.long x :: st) := by subst hv; exact kk
theorem j_w {w2 : va_W} (hw : w = w2) (kk : J D Γ y cc nL ret R Q k n w2 pc lv st) : J D Γ y cc nL ret R Q k n w pc lv st := by subst hw; exact kk
theorem j_lv {lv2 : List (Nat × Value)} (ks : List Nat) (hk : lv_pick lv ks = lv2) (kk : J D Γ y cc nL ret R Q k n w pc lv2 st) : J D Γ y cc nL ret R Q k n w pc lv st := by
  obtain ⟨p, e, s, m, args, below, meth, c, A⟩ := Γ
  intro h H locs ls hP hD hS hl
  exact kk h H locs ls hP hD hS (lv_sub hl ks hk)
theorem j_tableOut {dflt lo hi : Int} {offs : Array Int} {len : Nat} {x : Int32} {tgt : Nat} (hdg : decode cc pc = .ok (.tableswitch dflt lo hi offs, len)) (hh : x.toInt < lo ∨ hi < x.toInt) (ht : (pc : Int) + dflt = (tgt : Int)) (kk : J D Γ y cc nL ret R Q k n w tgt lv st) : J D Γ y cc nL ret R Q k n w pc lv (.int x :: st) := by
  obtain ⟨p, e, s, m, args, below, meth, c, A⟩ := Γ
  intro h H locs ls hP hD hS hl
  exact lv_tableOut h.1 h.2.1 hdg hh ht (kk h H locs ls hP hD hS hl)
theorem j_tableIn {dflt lo hi : Int} {offs : Array Int} {len : Nat} {x : Int32} {off : Int} {tgt : Nat} (hdg : decode cc pc = .ok (.tableswitch dflt lo hi offs, len)) (h1 : ¬ x.toInt < lo) (h2 : ¬ hi < x.toInt) (ho : offs[(x.toInt - lo).toNat]? = some off) (ht : (pc : Int) + off = (tgt : Int)) (kk : J D Γ y cc nL ret R Q k n w tgt lv st) : J D Γ y cc nL ret R Q k n w pc lv (.int x :: st) := by
  obtain ⟨p, e, s, m, args, below, meth, c, A⟩ := Γ
  intro h H locs ls hP hD hS hl
  exact lv_tableIn h.1 h.2.1 hdg h1 h2 ho ht (kk h H locs ls hP hD hS hl)
theorem j_lookup {dflt : Int} {ps : Array (Int × Int)} {len : Nat} {x : Int32} {off : Int} {tgt : Nat} (hdg : decode cc pc = .ok (.lookupswitch dflt ps, len)) (hp : (ps.toList.zip (ps.toList.drop 1)).all (fun (a, next) => a.1 < next.1) = true) (ho : Op.lookupswitch.offset ps.toList dflt x.toInt = off) (ht : (pc : Int) + off = (tgt : Int)) (kk : J D Γ y cc nL ret R Q k n w tgt lv st) : J D Γ y cc nL ret R Q k n w pc lv (.int x :: st) := by
  obtain ⟨p, e, s, m, args, below, meth, c, A⟩ := Γ
  intro h H locs ls hP hD hS hl
  exact lv_lookup h.1 h.2.1 hdg hp ho ht (kk h H locs ls hP hD hS hl)
theorem j_iald {a N : Nat} {f : Nat → Int32} {i v : Int32} (hdg : decode cc pc = .ok (.iaload, 1)) (q j : Nat) (ha : w[q]? = some (a, .inl (dI D, N, .inl f))) (hi : i = nI j) (hj : j < N) (hN : N < 2 ^ 31) (hv : f j = v) (kk : J D Γ y cc nL ret R Q k n w (pc + 1) lv (.int v :: st)) : J D Γ y cc nL ret R Q k n w pc lv (.int i :: .ref a :: st) := by
  obtain ⟨p, e, s, m, args, below, meth, c, A⟩ := Γ
  intro h H locs ls hP hD hS hl
  subst hi
  refine va_iald h.1 h.2.1 h.2.2.2.2.2.2.2.1 hP q 0 ha rfl (vp_in_nI hj hN) hdg ?_
  rw [nI_clamp (Nat.lt_trans hj hN), hv]
  exact (kk h H locs ls hP hD hS hl)
theorem j_zald {a N : Nat} {f : Nat → Int32} {i v : Int32} (hdg : decode cc pc = .ok (.baload, 1)) (q j : Nat) (ha : w[q]? = some (a, .inl (dZ D, N, .inl f))) (hi : i = nI j) (hj : j < N) (hN : N < 2 ^ 31) (hv : f j = v) (kk : J D Γ y cc nL ret R Q k n w (pc + 1) lv (.int v :: st)) : J D Γ y cc nL ret R Q k n w pc lv (.int i :: .ref a :: st) := by
  obtain ⟨p, e, s, m, args, below, meth, c, A⟩ := Γ
  intro h H locs ls hP hD hS hl
  subst hi
  refine va_zald h.1 h.2.1 h.2.2.2.2.2.2.2.1 hP q 2 ha rfl (vp_in_nI hj hN) hdg ?_
  rw [nI_clamp (Nat.lt_trans hj hN), hv]
  exact (kk h H locs ls hP hD hS hl)
theorem j_aald {a N b : Nat} {f : Nat → Option Nat} {i : Int32} (hdg : decode cc pc = .ok (.aaload, 1)) (q j : Nat) (ha : w[q]? = some (a, .inl (dE D, N, .inr (.inr (.inr (.inr f)))))) (hi : i = nI j) (hj : j < N) (hN : N < 2 ^ 31) (hv : f j = some b) (kk : J D Γ y cc nL ret R Q k n w (pc + 1) lv (.ref b :: st)) : J D Γ y cc nL ret R Q k n w pc lv (.int i :: .ref a :: st) := by
  obtain ⟨p, e, s, m, args, below, meth, c, A⟩ := Γ
  intro h H locs ls hP hD hS hl
  subst hi
  refine va_aldq h.1 h.2.1 h.2.2.2.2.2.2.2.1 hP q 1 ha rfl (vp_in_nI hj hN) hdg ?_
  rw [nI_clamp (Nat.lt_trans hj hN), hv]
  exact (kk h H locs ls hP hD hS hl)
theorem j_iast {a N : Nat} {f : Nat → Int32} {i x : Int32} {w2 : va_W} (hdg : decode cc pc = .ok (.iastore, 1)) (q j : Nat) (ha : w[q]? = some (a, .inl (dI D, N, .inl f))) (hi : i = nI j) (hj : j < N) (hN : N < 2 ^ 31) (hw : w.set q (a, .inl (dI D, N, .inl (upd f j x))) = w2) (kk : J D Γ y cc nL ret R Q k n w2 (pc + 1) lv st) : J D Γ y cc nL ret R Q k n w pc lv (.int x :: .int i :: .ref a :: st) := by
  obtain ⟨p, e, s, m, args, below, meth, c, A⟩ := Γ
  intro h H locs ls hP hD hS hl
  subst hi
  refine va_iast h.1 h.2.1 h.2.2.2.2.2.2.2.1 hP hD hS q 0 ha rfl (vp_in_nI hj hN) hdg (fun H1 locs1 hP hD hS => ?_)
  rw [nI_clamp (Nat.lt_trans hj hN), hw] at hP hD
  exact kk h H1 locs1 ls hP hD hS hl
theorem j_zast {a N : Nat} {f : Nat → Int32} {i x : Int32} {w2 : va_W} (hdg : decode cc pc = .ok (.bastore, 1)) (q j : Nat) (ha : w[q]? = some (a, .inl (dZ D, N, .inl f))) (hi : i = nI j) (hj : j < N) (hN : N < 2 ^ 31) (hw : w.set q (a, .inl (dZ D, N, .inl (upd f j (vp_nar .boolean x)))) = w2) (kk : J D Γ y cc nL ret R Q k n w2 (pc + 1) lv st) : J D Γ y cc nL ret R Q k n w pc lv (.int x :: .int i :: .ref a :: st) := by
  obtain ⟨p, e, s, m, args, below, meth, c, A⟩ := Γ
  intro h H locs ls hP hD hS hl
  subst hi
  refine va_zast h.1 h.2.1 h.2.2.2.2.2.2.2.1 hP hD hS q 2 ha rfl (vp_in_nI hj hN) hdg (fun H1 locs1 hP hD hS => ?_)
  rw [nI_clamp (Nat.lt_trans hj hN), hw] at hP hD
  exact kk h H1 locs1 ls hP hD hS hl
theorem j_alen {a : Nat} {cA : ClassId} {x : vp_A} {ty : FieldType} {v : Int32} (hdg : decode cc pc = .ok (.arraylength, 1)) (q t0 : Nat) (ha : w[q]? = some (a, .inl (cA, x))) (ht : (dT D)[t0]? = some (cA, ty)) (hv : Int32.ofNat x.1 = v) (kk : J D Γ y cc nL ret R Q k n w (pc + 1) lv (.int v :: st)) : J D Γ y cc nL ret R Q k n w pc lv (.ref a :: st) := by
  obtain ⟨p, e, s, m, args, below, meth, c, A⟩ := Γ
  intro h H locs ls hP hD hS hl
  exact va_alen h.1 h.2.1 h.2.2.2.2.2.2.2.1 hP q t0 ha ht hv hdg (kk h H locs ls hP hD hS hl)
theorem va_P_cong {G : va_G} {cl : List vw_C} {ws : va_W} {H : Heap} (hP : va_P G cl ws H) (q : Nat) {a N : Nat} {cA : ClassId} {f g : Nat → Int32} (ha : ws[q]? = some (a, .inl (cA, N, .inl f))) (hfg : ∀ j, j < N → f j = g j) : va_P G cl (ws.set q (a, .inl (cA, N, .inl g))) H := by
  intro j p hp
  by_cases hj : q = j
  · subst hj
    rw [List.getElem?_set] at hp
    simp only [if_true] at hp
    split at hp
    · cases hp
      show H[a]? = some (vp_cell _ _)
      rw [← cell_cong hfg]
      exact hP q _ ha
    · cases hp
  · rw [List.getElem?_set_ne hj] at hp
    exact hP j p hp
theorem j_cong {a N : Nat} {cA : ClassId} {f g : Nat → Int32} {w2 : va_W} (q : Nat) (ha : w[q]? = some (a, .inl (cA, N, .inl f))) (hfg : ∀ j, j < N → f j = g j) (hw : w.set q (a, .inl (cA, N, .inl g)) = w2) (kk : J D Γ y cc nL ret R Q k n w2 pc lv st) : J D Γ y cc nL ret R Q k n w pc lv st := by
  obtain ⟨p, e, s, m, args, below, meth, c, A⟩ := Γ
  intro h H locs ls hP hD hS hl
  have hP2 := va_P_cong hP q ha hfg
  have hD2 := hD.set (e := .inl (cA, N, .inl g)) ha
  rw [hw] at hP2 hD2
  exact kk h H locs ls hP2 hD2 hS hl
end RU1
section RU2
variable {D : DX} {Γ : GX} {y : MethodName} {cc : ByteArray} {nL : Nat} {ret : Option FieldType} {R : Room} {Q : State → Prop} {k n : Nat} {w : va_W} {pc : Nat} {lv : List (Nat × Value)} {st : List Value}

variable {fin : Option Value → va_W → Prop}
theorem j_iret {x : Int32} (hdg : decode cc pc = .ok (.ireturn, 1))  (hk : R.cells = k ∧ R.slots = n) (hf : fin (some (.int x)) w) : J D Γ y cc nL (some .int) R (Qf D Γ R fin) k n w pc lv [.int x] := by
  obtain ⟨p, e, s, m, args, below, meth, c, A⟩ := Γ
  intro h H locs ls hP hD hS hl
  obtain ⟨rfl, rfl⟩ := hk
  exact W.iret h.1 h.2.1 h.2.2.1 (fun t ht hW => ⟨⟨_, w, rfl, hf, by rw [ht]; exact hP, hD⟩, hS.F ht⟩) hS.2.2 hdg h.2.2.2.2.2.2.1
theorem j_lret {x : Int64} (hdg : decode cc pc = .ok (.lreturn, 1))  (hk : R.cells = k ∧ R.slots = n) (hf : fin (some (.long x)) w) : J D Γ y cc nL (some .long) R (Qf D Γ R fin) k n w pc lv [.long x] := by
  obtain ⟨p, e, s, m, args, below, meth, c, A⟩ := Γ
  intro h H locs ls hP hD hS hl
  obtain ⟨rfl, rfl⟩ := hk
  exact W.lret h.1 h.2.1 h.2.2.1 (fun t ht hW => ⟨⟨_, w, rfl, hf, by rw [ht]; exact hP, hD⟩, hS.F ht⟩) hS.2.2 hdg h.2.2.2.2.2.2.1
theorem j_vret  (hdg : decode cc pc = .ok (.return_, 1))  (hk : R.cells = k ∧ R.slots = n) (hf : fin (none) w) : J D Γ y cc nL none R (Qf D Γ R fin) k n w pc lv [] := by
  obtain ⟨p, e, s, m, args, below, meth, c, A⟩ := Γ
  intro h H locs ls hP hD hS hl
  obtain ⟨rfl, rfl⟩ := hk
  exact W.vret h.1 h.2.1 h.2.2.1 (fun t ht hW => ⟨⟨_, w, rfl, hf, by rw [ht]; exact hP, hD⟩, hS.F ht⟩) hS.2.2 hdg h.2.2.2.2.2.2.1
theorem j_zret {x : Int32} (hdg : decode cc pc = .ok (.ireturn, 1)) (hn : narrow .boolean (.int x) = .int x) (hk : R.cells = k ∧ R.slots = n) (hf : fin (some (.int x)) w) : J D Γ y cc nL (some .boolean) R (Qf D Γ R fin) k n w pc lv [.int x] := by
  obtain ⟨p, e, s, m, args, below, meth, c, A⟩ := Γ
  intro h H locs ls hP hD hS hl
  obtain ⟨rfl, rfl⟩ := hk
  exact W.zret h.1 h.2.1 h.2.2.1 hn (fun t ht hW => ⟨⟨_, w, rfl, hf, by rw [ht]; exact hP, hD⟩, hS.F ht⟩) hS.2.2 hdg h.2.2.2.2.2.2.1
end RU2
section RU3
variable {D : DX} {Γ : GX} {y : MethodName} {cc : ByteArray} {nL : Nat} {ret : Option FieldType} {R : Room} {Q : State → Prop} {k n : Nat} {w : va_W} {pc : Nat} {lv : List (Nat × Value)} {st : List Value}

theorem g_X0_9 (hy : y.cls = RX0) {a : Nat} {fs : List Value} {v : Value} (hdg : decode cc pc = .ok (.getfield 9, 3)) (q : Nat) (he : w[q]? = some (a, .inr (0, fs))) (hv : fs[0]? = some v) (kk : J D Γ y cc nL ret R Q k n w (pc + 3) lv (v :: st)) : J D Γ y cc nL ret R Q k n w pc lv (.ref a :: st) := by
  obtain ⟨p, e, s, m, args, below, meth, c, A⟩ := Γ
  intro h H locs ls hP hD hS hl
  exact va_get (C := RX0) (T := TX0) (N := 7) h.1 h.2.1 h.2.2.2.2.2.1 m_us_X0 h.2.2.2.2.1 h.2.2.2.2.2.2.2.1 hP q he rfl 0 (by decide) (by rw [hy]; exact h.2.2.2.2.2.1 _ m_fl_X0_9) (fun _ h9 => h9) hv hdg (kk h H locs ls hP hD hS hl)
theorem p_X0_9 (hy : y.cls = RX0) (hin : y.name = "<init>") {a : Nat} {fs : List Value} {x : Nat} {w2 : va_W} (hdg : decode cc pc = .ok (.putfield 9, 3)) (q : Nat) (he : w[q]? = some (a, .inr (0, fs))) (hlen : 0 < fs.length) (hw : w.set q (a, .inr (0, fs.set 0 (.ref x))) = w2) (kk : J D Γ y cc nL ret R Q k n w2 (pc + 3) lv st) : J D Γ y cc nL ret R Q k n w pc lv (.ref x :: .ref a :: st) := by
  obtain ⟨p, e, s, m, args, below, meth, c, A⟩ := Γ
  intro h H locs ls hP hD hS hl
  refine va_putF (C := RX0) (T := TX0) (N := 7) (ty := (.array .int)) h.1 h.2.1 h.2.2.2.2.2.1 m_us_X0 tyX0 tyX0_ok nmX0 h.2.2.2.2.1 h.2.2.2.2.2.2.2.1 hP hD hS q he rfl 0 (by decide) (by rw [hy]; exact h.2.2.2.2.2.1 _ m_fl_X0_9) (fun _ h9 => h9) rfl (by rw [h.2.2.2.2.2.2.2.2.2.1]; exact hin) (by rw [hy]; rfl) (by decide +kernel) rfl rfl hlen hdg (fun H1 locs1 hP hD hS => ?_)
  rw [hw] at hP hD
  exact kk h H1 locs1 ls hP hD hS hl
theorem g_X0_15 (hy : y.cls = RX0) {a : Nat} {fs : List Value} {v : Value} (hdg : decode cc pc = .ok (.getfield 15, 3)) (q : Nat) (he : w[q]? = some (a, .inr (0, fs))) (hv : fs[1]? = some v) (kk : J D Γ y cc nL ret R Q k n w (pc + 3) lv (v :: st)) : J D Γ y cc nL ret R Q k n w pc lv (.ref a :: st) := by
  obtain ⟨p, e, s, m, args, below, meth, c, A⟩ := Γ
  intro h H locs ls hP hD hS hl
  exact va_get (C := RX0) (T := TX0) (N := 7) h.1 h.2.1 h.2.2.2.2.2.1 m_us_X0 h.2.2.2.2.1 h.2.2.2.2.2.2.2.1 hP q he rfl 1 (by decide) (by rw [hy]; exact h.2.2.2.2.2.1 _ m_fl_X0_15) (fun _ h9 => h9) hv hdg (kk h H locs ls hP hD hS hl)
theorem p_X0_15 (hy : y.cls = RX0) (hin : y.name = "<init>") {a : Nat} {fs : List Value} {x : Nat} {w2 : va_W} (hdg : decode cc pc = .ok (.putfield 15, 3)) (q : Nat) (he : w[q]? = some (a, .inr (0, fs))) (hlen : 1 < fs.length) (hw : w.set q (a, .inr (0, fs.set 1 (.ref x))) = w2) (kk : J D Γ y cc nL ret R Q k n w2 (pc + 3) lv st) : J D Γ y cc nL ret R Q k n w pc lv (.ref x :: .ref a :: st) := by
  obtain ⟨p, e, s, m, args, below, meth, c, A⟩ := Γ
  intro h H locs ls hP hD hS hl
  refine va_putF (C := RX0) (T := TX0) (N := 7) (ty := (.array .int)) h.1 h.2.1 h.2.2.2.2.2.1 m_us_X0 tyX0 tyX0_ok nmX0 h.2.2.2.2.1 h.2.2.2.2.2.2.2.1 hP hD hS q he rfl 1 (by decide) (by rw [hy]; exact h.2.2.2.2.2.1 _ m_fl_X0_15) (fun _ h9 => h9) rfl (by rw [h.2.2.2.2.2.2.2.2.2.1]; exact hin) (by rw [hy]; rfl) (by decide +kernel) rfl rfl hlen hdg (fun H1 locs1 hP hD hS => ?_)
  rw [hw] at hP hD
  exact kk h H1 locs1 ls hP hD hS hl
theorem g_X0_18 (hy : y.cls = RX0) {a : Nat} {fs : List Value} {v : Value} (hdg : decode cc pc = .ok (.getfield 18, 3)) (q : Nat) (he : w[q]? = some (a, .inr (0, fs))) (hv : fs[2]? = some v) (kk : J D Γ y cc nL ret R Q k n w (pc + 3) lv (v :: st)) : J D Γ y cc nL ret R Q k n w pc lv (.ref a :: st) := by
  obtain ⟨p, e, s, m, args, below, meth, c, A⟩ := Γ
  intro h H locs ls hP hD hS hl
  exact va_get (C := RX0) (T := TX0) (N := 7) h.1 h.2.1 h.2.2.2.2.2.1 m_us_X0 h.2.2.2.2.1 h.2.2.2.2.2.2.2.1 hP q he rfl 2 (by decide) (by rw [hy]; exact h.2.2.2.2.2.1 _ m_fl_X0_18) (fun _ h9 => h9) hv hdg (kk h H locs ls hP hD hS hl)
theorem p_X0_18 (hy : y.cls = RX0) (hin : y.name = "<init>") {a : Nat} {fs : List Value} {x : Nat} {w2 : va_W} (hdg : decode cc pc = .ok (.putfield 18, 3)) (q : Nat) (he : w[q]? = some (a, .inr (0, fs))) (hlen : 2 < fs.length) (hw : w.set q (a, .inr (0, fs.set 2 (.ref x))) = w2) (kk : J D Γ y cc nL ret R Q k n w2 (pc + 3) lv st) : J D Γ y cc nL ret R Q k n w pc lv (.ref x :: .ref a :: st) := by
  obtain ⟨p, e, s, m, args, below, meth, c, A⟩ := Γ
  intro h H locs ls hP hD hS hl
  refine va_putF (C := RX0) (T := TX0) (N := 7) (ty := (.array .int)) h.1 h.2.1 h.2.2.2.2.2.1 m_us_X0 tyX0 tyX0_ok nmX0 h.2.2.2.2.1 h.2.2.2.2.2.2.2.1 hP hD hS q he rfl 2 (by decide) (by rw [hy]; exact h.2.2.2.2.2.1 _ m_fl_X0_18) (fun _ h9 => h9) rfl (by rw [h.2.2.2.2.2.2.2.2.2.1]; exact hin) (by rw [hy]; rfl) (by decide +kernel) rfl rfl hlen hdg (fun H1 locs1 hP hD hS => ?_)
  rw [hw] at hP hD
  exact kk h H1 locs1 ls hP hD hS hl
theorem g_X0_21 (hy : y.cls = RX0) {a : Nat} {fs : List Value} {v : Value} (hdg : decode cc pc = .ok (.getfield 21, 3)) (q : Nat) (he : w[q]? = some (a, .inr (0, fs))) (hv : fs[3]? = some v) (kk : J D Γ y cc nL ret R Q k n w (pc + 3) lv (v :: st)) : J D Γ y cc nL ret R Q k n w pc lv (.ref a :: st) := by
  obtain ⟨p, e, s, m, args, below, meth, c, A⟩ := Γ
  intro h H locs ls hP hD hS hl
  exact va_get (C := RX0) (T := TX0) (N := 7) h.1 h.2.1 h.2.2.2.2.2.1 m_us_X0 h.2.2.2.2.1 h.2.2.2.2.2.2.2.1 hP q he rfl 3 (by decide) (by rw [hy]; exact h.2.2.2.2.2.1 _ m_fl_X0_21) (fun _ h9 => h9) hv hdg (kk h H locs ls hP hD hS hl)
theorem p_X0_21 (hy : y.cls = RX0) (hin : y.name = "<init>") {a : Nat} {fs : List Value} {x : Nat} {w2 : va_W} (hdg : decode cc pc = .ok (.putfield 21, 3)) (q : Nat) (he : w[q]? = some (a, .inr (0, fs))) (hlen : 3 < fs.length) (hw : w.set q (a, .inr (0, fs.set 3 (.ref x))) = w2) (kk : J D Γ y cc nL ret R Q k n w2 (pc + 3) lv st) : J D Γ y cc nL ret R Q k n w pc lv (.ref x :: .ref a :: st) := by
  obtain ⟨p, e, s, m, args, below, meth, c, A⟩ := Γ
  intro h H locs ls hP hD hS hl
  refine va_putF (C := RX0) (T := TX0) (N := 7) (ty := (.array .int)) h.1 h.2.1 h.2.2.2.2.2.1 m_us_X0 tyX0 tyX0_ok nmX0 h.2.2.2.2.1 h.2.2.2.2.2.2.2.1 hP hD hS q he rfl 3 (by decide) (by rw [hy]; exact h.2.2.2.2.2.1 _ m_fl_X0_21) (fun _ h9 => h9) rfl (by rw [h.2.2.2.2.2.2.2.2.2.1]; exact hin) (by rw [hy]; rfl) (by decide +kernel) rfl rfl hlen hdg (fun H1 locs1 hP hD hS => ?_)
  rw [hw] at hP hD
  exact kk h H1 locs1 ls hP hD hS hl
theorem g_X0_24 (hy : y.cls = RX0) {a : Nat} {fs : List Value} {v : Value} (hdg : decode cc pc = .ok (.getfield 24, 3)) (q : Nat) (he : w[q]? = some (a, .inr (0, fs))) (hv : fs[4]? = some v) (kk : J D Γ y cc nL ret R Q k n w (pc + 3) lv (v :: st)) : J D Γ y cc nL ret R Q k n w pc lv (.ref a :: st) := by
  obtain ⟨p, e, s, m, args, below, meth, c, A⟩ := Γ
  intro h H locs ls hP hD hS hl
  exact va_get (C := RX0) (T := TX0) (N := 7) h.1 h.2.1 h.2.2.2.2.2.1 m_us_X0 h.2.2.2.2.1 h.2.2.2.2.2.2.2.1 hP q he rfl 4 (by decide) (by rw [hy]; exact h.2.2.2.2.2.1 _ m_fl_X0_24) (fun _ h9 => h9) hv hdg (kk h H locs ls hP hD hS hl)
theorem p_X0_24 (hy : y.cls = RX0) {a : Nat} {fs : List Value} {x : Int32} {w2 : va_W} (hdg : decode cc pc = .ok (.putfield 24, 3)) (q : Nat) (he : w[q]? = some (a, .inr (0, fs))) (hlen : 4 < fs.length) (hw : w.set q (a, .inr (0, fs.set 4 (.int x))) = w2) (kk : J D Γ y cc nL ret R Q k n w2 (pc + 3) lv st) : J D Γ y cc nL ret R Q k n w pc lv (.int x :: .ref a :: st) := by
  obtain ⟨p, e, s, m, args, below, meth, c, A⟩ := Γ
  intro h H locs ls hP hD hS hl
  refine va_put (C := RX0) (T := TX0) (N := 7) (ty := .int) h.1 h.2.1 h.2.2.2.2.2.1 m_us_X0 tyX0 tyX0_ok nmX0 h.2.2.2.2.1 h.2.2.2.2.2.2.2.1 hP hD hS q he rfl 4 (by decide) (by rw [hy]; exact h.2.2.2.2.2.1 _ m_fl_X0_24) (fun _ h9 => h9) rfl (by decide +kernel) rfl rfl hlen hdg (fun H1 locs1 hP hD hS => ?_)
  rw [hw] at hP hD
  exact kk h H1 locs1 ls hP hD hS hl
theorem g_X0_28 (hy : y.cls = RX0) {a : Nat} {fs : List Value} {v : Value} (hdg : decode cc pc = .ok (.getfield 28, 3)) (q : Nat) (he : w[q]? = some (a, .inr (0, fs))) (hv : fs[5]? = some v) (kk : J D Γ y cc nL ret R Q k n w (pc + 3) lv (v :: st)) : J D Γ y cc nL ret R Q k n w pc lv (.ref a :: st) := by
  obtain ⟨p, e, s, m, args, below, meth, c, A⟩ := Γ
  intro h H locs ls hP hD hS hl
  exact va_get (C := RX0) (T := TX0) (N := 7) h.1 h.2.1 h.2.2.2.2.2.1 m_us_X0 h.2.2.2.2.1 h.2.2.2.2.2.2.2.1 hP q he rfl 5 (by decide) (by rw [hy]; exact h.2.2.2.2.2.1 _ m_fl_X0_28) (fun _ h9 => h9) hv hdg (kk h H locs ls hP hD hS hl)
theorem p_X0_28 (hy : y.cls = RX0) {a : Nat} {fs : List Value} {x : Int32} {w2 : va_W} (hdg : decode cc pc = .ok (.putfield 28, 3)) (q : Nat) (he : w[q]? = some (a, .inr (0, fs))) (hlen : 5 < fs.length) (hw : w.set q (a, .inr (0, fs.set 5 (.int x))) = w2) (kk : J D Γ y cc nL ret R Q k n w2 (pc + 3) lv st) : J D Γ y cc nL ret R Q k n w pc lv (.int x :: .ref a :: st) := by
  obtain ⟨p, e, s, m, args, below, meth, c, A⟩ := Γ
  intro h H locs ls hP hD hS hl
  refine va_put (C := RX0) (T := TX0) (N := 7) (ty := .int) h.1 h.2.1 h.2.2.2.2.2.1 m_us_X0 tyX0 tyX0_ok nmX0 h.2.2.2.2.1 h.2.2.2.2.2.2.2.1 hP hD hS q he rfl 5 (by decide) (by rw [hy]; exact h.2.2.2.2.2.1 _ m_fl_X0_28) (fun _ h9 => h9) rfl (by decide +kernel) rfl rfl hlen hdg (fun H1 locs1 hP hD hS => ?_)
  rw [hw] at hP hD
  exact kk h H1 locs1 ls hP hD hS hl
theorem g_X0_31 (hy : y.cls = RX0) {a : Nat} {fs : List Value} {v : Value} (hdg : decode cc pc = .ok (.getfield 31, 3)) (q : Nat) (he : w[q]? = some (a, .inr (0, fs))) (hv : fs[6]? = some v) (kk : J D Γ y cc nL ret R Q k n w (pc + 3) lv (v :: st)) : J D Γ y cc nL ret R Q k n w pc lv (.ref a :: st) := by
  obtain ⟨p, e, s, m, args, below, meth, c, A⟩ := Γ
  intro h H locs ls hP hD hS hl
  exact va_get (C := RX0) (T := TX0) (N := 7) h.1 h.2.1 h.2.2.2.2.2.1 m_us_X0 h.2.2.2.2.1 h.2.2.2.2.2.2.2.1 hP q he rfl 6 (by decide) (by rw [hy]; exact h.2.2.2.2.2.1 _ m_fl_X0_31) (fun _ h9 => h9) hv hdg (kk h H locs ls hP hD hS hl)
theorem p_X0_31 (hy : y.cls = RX0) {a : Nat} {fs : List Value} {x : Int32} {w2 : va_W} (hdg : decode cc pc = .ok (.putfield 31, 3)) (q : Nat) (he : w[q]? = some (a, .inr (0, fs))) (hlen : 6 < fs.length) (hw : w.set q (a, .inr (0, fs.set 6 (.int x))) = w2) (kk : J D Γ y cc nL ret R Q k n w2 (pc + 3) lv st) : J D Γ y cc nL ret R Q k n w pc lv (.int x :: .ref a :: st) := by
  obtain ⟨p, e, s, m, args, below, meth, c, A⟩ := Γ
  intro h H locs ls hP hD hS hl
  refine va_put (C := RX0) (T := TX0) (N := 7) (ty := .int) h.1 h.2.1 h.2.2.2.2.2.1 m_us_X0 tyX0 tyX0_ok nmX0 h.2.2.2.2.1 h.2.2.2.2.2.2.2.1 hP hD hS q he rfl 6 (by decide) (by rw [hy]; exact h.2.2.2.2.2.1 _ m_fl_X0_31) (fun _ h9 => h9) rfl (by decide +kernel) rfl rfl hlen hdg (fun H1 locs1 hP hD hS => ?_)
  rw [hw] at hP hD
  exact kk h H1 locs1 ls hP hD hS hl
theorem g_X1_11 (hy : y.cls = RX1) {a : Nat} {fs : List Value} {v : Value} (hdg : decode cc pc = .ok (.getfield 11, 3)) (q : Nat) (he : w[q]? = some (a, .inr (1, fs))) (hv : fs[0]? = some v) (kk : J D Γ y cc nL ret R Q k n w (pc + 3) lv (v :: st)) : J D Γ y cc nL ret R Q k n w pc lv (.ref a :: st) := by
  obtain ⟨p, e, s, m, args, below, meth, c, A⟩ := Γ
  intro h H locs ls hP hD hS hl
  exact va_get (C := RX1) (T := TX1) (N := 3) h.1 h.2.1 h.2.2.2.2.2.1 m_us_X1 h.2.2.2.2.1 h.2.2.2.2.2.2.2.1 hP q he rfl 0 (by decide) (by rw [hy]; exact h.2.2.2.2.2.1 _ m_fl_X1_11) (fun _ h9 => h9) hv hdg (kk h H locs ls hP hD hS hl)
theorem p_X1_11 (hy : y.cls = RX1) (hin : y.name = "<init>") {a : Nat} {fs : List Value} {x : Nat} {w2 : va_W} (hdg : decode cc pc = .ok (.putfield 11, 3)) (q : Nat) (he : w[q]? = some (a, .inr (1, fs))) (hlen : 0 < fs.length) (hw : w.set q (a, .inr (1, fs.set 0 (.ref x))) = w2) (kk : J D Γ y cc nL ret R Q k n w2 (pc + 3) lv st) : J D Γ y cc nL ret R Q k n w pc lv (.ref x :: .ref a :: st) := by
  obtain ⟨p, e, s, m, args, below, meth, c, A⟩ := Γ
  intro h H locs ls hP hD hS hl
  refine va_putF (C := RX1) (T := TX1) (N := 3) (ty := (.array (.object "TransferRings$Engine"))) h.1 h.2.1 h.2.2.2.2.2.1 m_us_X1 tyX1 tyX1_ok nmX1 h.2.2.2.2.1 h.2.2.2.2.2.2.2.1 hP hD hS q he rfl 0 (by decide) (by rw [hy]; exact h.2.2.2.2.2.1 _ m_fl_X1_11) (fun _ h9 => h9) rfl (by rw [h.2.2.2.2.2.2.2.2.2.1]; exact hin) (by rw [hy]; rfl) (by decide +kernel) rfl rfl hlen hdg (fun H1 locs1 hP hD hS => ?_)
  rw [hw] at hP hD
  exact kk h H1 locs1 ls hP hD hS hl
theorem g_X1_16 (hy : y.cls = RX1) {a : Nat} {fs : List Value} {v : Value} (hdg : decode cc pc = .ok (.getfield 16, 3)) (q : Nat) (he : w[q]? = some (a, .inr (1, fs))) (hv : fs[1]? = some v) (kk : J D Γ y cc nL ret R Q k n w (pc + 3) lv (v :: st)) : J D Γ y cc nL ret R Q k n w pc lv (.ref a :: st) := by
  obtain ⟨p, e, s, m, args, below, meth, c, A⟩ := Γ
  intro h H locs ls hP hD hS hl
  exact va_get (C := RX1) (T := TX1) (N := 3) h.1 h.2.1 h.2.2.2.2.2.1 m_us_X1 h.2.2.2.2.1 h.2.2.2.2.2.2.2.1 hP q he rfl 1 (by decide) (by rw [hy]; exact h.2.2.2.2.2.1 _ m_fl_X1_16) (fun _ h9 => h9) hv hdg (kk h H locs ls hP hD hS hl)
theorem p_X1_16 (hy : y.cls = RX1) {a : Nat} {fs : List Value} {x : Int32} {w2 : va_W} (hdg : decode cc pc = .ok (.putfield 16, 3)) (q : Nat) (he : w[q]? = some (a, .inr (1, fs))) (hlen : 1 < fs.length) (hw : w.set q (a, .inr (1, fs.set 1 (.int x))) = w2) (kk : J D Γ y cc nL ret R Q k n w2 (pc + 3) lv st) : J D Γ y cc nL ret R Q k n w pc lv (.int x :: .ref a :: st) := by
  obtain ⟨p, e, s, m, args, below, meth, c, A⟩ := Γ
  intro h H locs ls hP hD hS hl
  refine va_put (C := RX1) (T := TX1) (N := 3) (ty := .int) h.1 h.2.1 h.2.2.2.2.2.1 m_us_X1 tyX1 tyX1_ok nmX1 h.2.2.2.2.1 h.2.2.2.2.2.2.2.1 hP hD hS q he rfl 1 (by decide) (by rw [hy]; exact h.2.2.2.2.2.1 _ m_fl_X1_16) (fun _ h9 => h9) rfl (by decide +kernel) rfl rfl hlen hdg (fun H1 locs1 hP hD hS => ?_)
  rw [hw] at hP hD
  exact kk h H1 locs1 ls hP hD hS hl
theorem g_X1_20 (hy : y.cls = RX1) {a : Nat} {fs : List Value} {v : Value} (hdg : decode cc pc = .ok (.getfield 20, 3)) (q : Nat) (he : w[q]? = some (a, .inr (1, fs))) (hv : fs[2]? = some v) (kk : J D Γ y cc nL ret R Q k n w (pc + 3) lv (v :: st)) : J D Γ y cc nL ret R Q k n w pc lv (.ref a :: st) := by
  obtain ⟨p, e, s, m, args, below, meth, c, A⟩ := Γ
  intro h H locs ls hP hD hS hl
  exact va_get (C := RX1) (T := TX1) (N := 3) h.1 h.2.1 h.2.2.2.2.2.1 m_us_X1 h.2.2.2.2.1 h.2.2.2.2.2.2.2.1 hP q he rfl 2 (by decide) (by rw [hy]; exact h.2.2.2.2.2.1 _ m_fl_X1_20) (fun _ h9 => h9) hv hdg (kk h H locs ls hP hD hS hl)
theorem p_X1_20 (hy : y.cls = RX1) {a : Nat} {fs : List Value} {x : Int32} {w2 : va_W} (hdg : decode cc pc = .ok (.putfield 20, 3)) (q : Nat) (he : w[q]? = some (a, .inr (1, fs))) (hlen : 2 < fs.length) (hw : w.set q (a, .inr (1, fs.set 2 (.int x))) = w2) (kk : J D Γ y cc nL ret R Q k n w2 (pc + 3) lv st) : J D Γ y cc nL ret R Q k n w pc lv (.int x :: .ref a :: st) := by
  obtain ⟨p, e, s, m, args, below, meth, c, A⟩ := Γ
  intro h H locs ls hP hD hS hl
  refine va_put (C := RX1) (T := TX1) (N := 3) (ty := .int) h.1 h.2.1 h.2.2.2.2.2.1 m_us_X1 tyX1 tyX1_ok nmX1 h.2.2.2.2.1 h.2.2.2.2.2.2.2.1 hP hD hS q he rfl 2 (by decide) (by rw [hy]; exact h.2.2.2.2.2.1 _ m_fl_X1_20) (fun _ h9 => h9) rfl (by decide +kernel) rfl rfl hlen hdg (fun H1 locs1 hP hD hS => ?_)
  rw [hw] at hP hD
  exact kk h H1 locs1 ls hP hD hS hl
theorem g_X2_9 (hy : y.cls = RX2) {a : Nat} {fs : List Value} {v : Value} (hdg : decode cc pc = .ok (.getfield 9, 3)) (q : Nat) (he : w[q]? = some (a, .inr (2, fs))) (hv : fs[0]? = some v) (kk : J D Γ y cc nL ret R Q k n w (pc + 3) lv (v :: st)) : J D Γ y cc nL ret R Q k n w pc lv (.ref a :: st) := by
  obtain ⟨p, e, s, m, args, below, meth, c, A⟩ := Γ
  intro h H locs ls hP hD hS hl
  exact va_get (C := RX2) (T := TX2) (N := 3) h.1 h.2.1 h.2.2.2.2.2.1 m_us_X2 h.2.2.2.2.1 h.2.2.2.2.2.2.2.1 hP q he rfl 0 (by decide) (by rw [hy]; exact h.2.2.2.2.2.1 _ m_fl_X2_9) (fun _ h9 => h9) hv hdg (kk h H locs ls hP hD hS hl)
theorem p_X2_9 (hy : y.cls = RX2) (hin : y.name = "<init>") {a : Nat} {fs : List Value} {x : Nat} {w2 : va_W} (hdg : decode cc pc = .ok (.putfield 9, 3)) (q : Nat) (he : w[q]? = some (a, .inr (2, fs))) (hlen : 0 < fs.length) (hw : w.set q (a, .inr (2, fs.set 0 (.ref x))) = w2) (kk : J D Γ y cc nL ret R Q k n w2 (pc + 3) lv st) : J D Γ y cc nL ret R Q k n w pc lv (.ref x :: .ref a :: st) := by
  obtain ⟨p, e, s, m, args, below, meth, c, A⟩ := Γ
  intro h H locs ls hP hD hS hl
  refine va_putF (C := RX2) (T := TX2) (N := 3) (ty := (.array .int)) h.1 h.2.1 h.2.2.2.2.2.1 m_us_X2 tyX2 tyX2_ok nmX2 h.2.2.2.2.1 h.2.2.2.2.2.2.2.1 hP hD hS q he rfl 0 (by decide) (by rw [hy]; exact h.2.2.2.2.2.1 _ m_fl_X2_9) (fun _ h9 => h9) rfl (by rw [h.2.2.2.2.2.2.2.2.2.1]; exact hin) (by rw [hy]; rfl) (by decide +kernel) rfl rfl hlen hdg (fun H1 locs1 hP hD hS => ?_)
  rw [hw] at hP hD
  exact kk h H1 locs1 ls hP hD hS hl
theorem g_X2_13 (hy : y.cls = RX2) {a : Nat} {fs : List Value} {v : Value} (hdg : decode cc pc = .ok (.getfield 13, 3)) (q : Nat) (he : w[q]? = some (a, .inr (2, fs))) (hv : fs[1]? = some v) (kk : J D Γ y cc nL ret R Q k n w (pc + 3) lv (v :: st)) : J D Γ y cc nL ret R Q k n w pc lv (.ref a :: st) := by
  obtain ⟨p, e, s, m, args, below, meth, c, A⟩ := Γ
  intro h H locs ls hP hD hS hl
  exact va_get (C := RX2) (T := TX2) (N := 3) h.1 h.2.1 h.2.2.2.2.2.1 m_us_X2 h.2.2.2.2.1 h.2.2.2.2.2.2.2.1 hP q he rfl 1 (by decide) (by rw [hy]; exact h.2.2.2.2.2.1 _ m_fl_X2_13) (fun _ h9 => h9) hv hdg (kk h H locs ls hP hD hS hl)
theorem p_X2_13 (hy : y.cls = RX2) (hin : y.name = "<init>") {a : Nat} {fs : List Value} {x : Nat} {w2 : va_W} (hdg : decode cc pc = .ok (.putfield 13, 3)) (q : Nat) (he : w[q]? = some (a, .inr (2, fs))) (hlen : 1 < fs.length) (hw : w.set q (a, .inr (2, fs.set 1 (.ref x))) = w2) (kk : J D Γ y cc nL ret R Q k n w2 (pc + 3) lv st) : J D Γ y cc nL ret R Q k n w pc lv (.ref x :: .ref a :: st) := by
  obtain ⟨p, e, s, m, args, below, meth, c, A⟩ := Γ
  intro h H locs ls hP hD hS hl
  refine va_putF (C := RX2) (T := TX2) (N := 3) (ty := (.array .int)) h.1 h.2.1 h.2.2.2.2.2.1 m_us_X2 tyX2 tyX2_ok nmX2 h.2.2.2.2.1 h.2.2.2.2.2.2.2.1 hP hD hS q he rfl 1 (by decide) (by rw [hy]; exact h.2.2.2.2.2.1 _ m_fl_X2_13) (fun _ h9 => h9) rfl (by rw [h.2.2.2.2.2.2.2.2.2.1]; exact hin) (by rw [hy]; rfl) (by decide +kernel) rfl rfl hlen hdg (fun H1 locs1 hP hD hS => ?_)
  rw [hw] at hP hD
  exact kk h H1 locs1 ls hP hD hS hl
theorem g_X2_16 (hy : y.cls = RX2) {a : Nat} {fs : List Value} {v : Value} (hdg : decode cc pc = .ok (.getfield 16, 3)) (q : Nat) (he : w[q]? = some (a, .inr (2, fs))) (hv : fs[2]? = some v) (kk : J D Γ y cc nL ret R Q k n w (pc + 3) lv (v :: st)) : J D Γ y cc nL ret R Q k n w pc lv (.ref a :: st) := by
  obtain ⟨p, e, s, m, args, below, meth, c, A⟩ := Γ
  intro h H locs ls hP hD hS hl
  exact va_get (C := RX2) (T := TX2) (N := 3) h.1 h.2.1 h.2.2.2.2.2.1 m_us_X2 h.2.2.2.2.1 h.2.2.2.2.2.2.2.1 hP q he rfl 2 (by decide) (by rw [hy]; exact h.2.2.2.2.2.1 _ m_fl_X2_16) (fun _ h9 => h9) hv hdg (kk h H locs ls hP hD hS hl)
theorem p_X2_16 (hy : y.cls = RX2) {a : Nat} {fs : List Value} {x : Int32} {w2 : va_W} (hdg : decode cc pc = .ok (.putfield 16, 3)) (q : Nat) (he : w[q]? = some (a, .inr (2, fs))) (hlen : 2 < fs.length) (hw : w.set q (a, .inr (2, fs.set 2 (.int x))) = w2) (kk : J D Γ y cc nL ret R Q k n w2 (pc + 3) lv st) : J D Γ y cc nL ret R Q k n w pc lv (.int x :: .ref a :: st) := by
  obtain ⟨p, e, s, m, args, below, meth, c, A⟩ := Γ
  intro h H locs ls hP hD hS hl
  refine va_put (C := RX2) (T := TX2) (N := 3) (ty := .int) h.1 h.2.1 h.2.2.2.2.2.1 m_us_X2 tyX2 tyX2_ok nmX2 h.2.2.2.2.1 h.2.2.2.2.2.2.2.1 hP hD hS q he rfl 2 (by decide) (by rw [hy]; exact h.2.2.2.2.2.1 _ m_fl_X2_16) (fun _ h9 => h9) rfl (by decide +kernel) rfl rfl hlen hdg (fun H1 locs1 hP hD hS => ?_)
  rw [hw] at hP hD
  exact kk h H1 locs1 ls hP hD hS hl
theorem g_X3_9 (hy : y.cls = RX3) {a : Nat} {fs : List Value} {v : Value} (hdg : decode cc pc = .ok (.getfield 9, 3)) (q : Nat) (he : w[q]? = some (a, .inr (3, fs))) (hv : fs[0]? = some v) (kk : J D Γ y cc nL ret R Q k n w (pc + 3) lv (v :: st)) : J D Γ y cc nL ret R Q k n w pc lv (.ref a :: st) := by
  obtain ⟨p, e, s, m, args, below, meth, c, A⟩ := Γ
  intro h H locs ls hP hD hS hl
  exact va_get (C := RX3) (T := TX3) (N := 6) h.1 h.2.1 h.2.2.2.2.2.1 m_us_X3 h.2.2.2.2.1 h.2.2.2.2.2.2.2.1 hP q he rfl 0 (by decide) (by rw [hy]; exact h.2.2.2.2.2.1 _ m_fl_X3_9) (fun _ h9 => h9) hv hdg (kk h H locs ls hP hD hS hl)
theorem p_X3_9 (hy : y.cls = RX3) (hin : y.name = "<init>") {a : Nat} {fs : List Value} {x : Nat} {w2 : va_W} (hdg : decode cc pc = .ok (.putfield 9, 3)) (q : Nat) (he : w[q]? = some (a, .inr (3, fs))) (hlen : 0 < fs.length) (hw : w.set q (a, .inr (3, fs.set 0 (.ref x))) = w2) (kk : J D Γ y cc nL ret R Q k n w2 (pc + 3) lv st) : J D Γ y cc nL ret R Q k n w pc lv (.ref x :: .ref a :: st) := by
  obtain ⟨p, e, s, m, args, below, meth, c, A⟩ := Γ
  intro h H locs ls hP hD hS hl
  refine va_putF (C := RX3) (T := TX3) (N := 6) (ty := (.array .int)) h.1 h.2.1 h.2.2.2.2.2.1 m_us_X3 tyX3 tyX3_ok nmX3 h.2.2.2.2.1 h.2.2.2.2.2.2.2.1 hP hD hS q he rfl 0 (by decide) (by rw [hy]; exact h.2.2.2.2.2.1 _ m_fl_X3_9) (fun _ h9 => h9) rfl (by rw [h.2.2.2.2.2.2.2.2.2.1]; exact hin) (by rw [hy]; rfl) (by decide +kernel) rfl rfl hlen hdg (fun H1 locs1 hP hD hS => ?_)
  rw [hw] at hP hD
  exact kk h H1 locs1 ls hP hD hS hl
theorem g_X3_13 (hy : y.cls = RX3) {a : Nat} {fs : List Value} {v : Value} (hdg : decode cc pc = .ok (.getfield 13, 3)) (q : Nat) (he : w[q]? = some (a, .inr (3, fs))) (hv : fs[1]? = some v) (kk : J D Γ y cc nL ret R Q k n w (pc + 3) lv (v :: st)) : J D Γ y cc nL ret R Q k n w pc lv (.ref a :: st) := by
  obtain ⟨p, e, s, m, args, below, meth, c, A⟩ := Γ
  intro h H locs ls hP hD hS hl
  exact va_get (C := RX3) (T := TX3) (N := 6) h.1 h.2.1 h.2.2.2.2.2.1 m_us_X3 h.2.2.2.2.1 h.2.2.2.2.2.2.2.1 hP q he rfl 1 (by decide) (by rw [hy]; exact h.2.2.2.2.2.1 _ m_fl_X3_13) (fun _ h9 => h9) hv hdg (kk h H locs ls hP hD hS hl)
theorem p_X3_13 (hy : y.cls = RX3) (hin : y.name = "<init>") {a : Nat} {fs : List Value} {x : Nat} {w2 : va_W} (hdg : decode cc pc = .ok (.putfield 13, 3)) (q : Nat) (he : w[q]? = some (a, .inr (3, fs))) (hlen : 1 < fs.length) (hw : w.set q (a, .inr (3, fs.set 1 (.ref x))) = w2) (kk : J D Γ y cc nL ret R Q k n w2 (pc + 3) lv st) : J D Γ y cc nL ret R Q k n w pc lv (.ref x :: .ref a :: st) := by
  obtain ⟨p, e, s, m, args, below, meth, c, A⟩ := Γ
  intro h H locs ls hP hD hS hl
  refine va_putF (C := RX3) (T := TX3) (N := 6) (ty := (.array .int)) h.1 h.2.1 h.2.2.2.2.2.1 m_us_X3 tyX3 tyX3_ok nmX3 h.2.2.2.2.1 h.2.2.2.2.2.2.2.1 hP hD hS q he rfl 1 (by decide) (by rw [hy]; exact h.2.2.2.2.2.1 _ m_fl_X3_13) (fun _ h9 => h9) rfl (by rw [h.2.2.2.2.2.2.2.2.2.1]; exact hin) (by rw [hy]; rfl) (by decide +kernel) rfl rfl hlen hdg (fun H1 locs1 hP hD hS => ?_)
  rw [hw] at hP hD
  exact kk h H1 locs1 ls hP hD hS hl
theorem g_X3_16 (hy : y.cls = RX3) {a : Nat} {fs : List Value} {v : Value} (hdg : decode cc pc = .ok (.getfield 16, 3)) (q : Nat) (he : w[q]? = some (a, .inr (3, fs))) (hv : fs[2]? = some v) (kk : J D Γ y cc nL ret R Q k n w (pc + 3) lv (v :: st)) : J D Γ y cc nL ret R Q k n w pc lv (.ref a :: st) := by
  obtain ⟨p, e, s, m, args, below, meth, c, A⟩ := Γ
  intro h H locs ls hP hD hS hl
  exact va_get (C := RX3) (T := TX3) (N := 6) h.1 h.2.1 h.2.2.2.2.2.1 m_us_X3 h.2.2.2.2.1 h.2.2.2.2.2.2.2.1 hP q he rfl 2 (by decide) (by rw [hy]; exact h.2.2.2.2.2.1 _ m_fl_X3_16) (fun _ h9 => h9) hv hdg (kk h H locs ls hP hD hS hl)
theorem p_X3_16 (hy : y.cls = RX3) (hin : y.name = "<init>") {a : Nat} {fs : List Value} {x : Nat} {w2 : va_W} (hdg : decode cc pc = .ok (.putfield 16, 3)) (q : Nat) (he : w[q]? = some (a, .inr (3, fs))) (hlen : 2 < fs.length) (hw : w.set q (a, .inr (3, fs.set 2 (.ref x))) = w2) (kk : J D Γ y cc nL ret R Q k n w2 (pc + 3) lv st) : J D Γ y cc nL ret R Q k n w pc lv (.ref x :: .ref a :: st) := by
  obtain ⟨p, e, s, m, args, below, meth, c, A⟩ := Γ
  intro h H locs ls hP hD hS hl
  refine va_putF (C := RX3) (T := TX3) (N := 6) (ty := (.array .int)) h.1 h.2.1 h.2.2.2.2.2.1 m_us_X3 tyX3 tyX3_ok nmX3 h.2.2.2.2.1 h.2.2.2.2.2.2.2.1 hP hD hS q he rfl 2 (by decide) (by rw [hy]; exact h.2.2.2.2.2.1 _ m_fl_X3_16) (fun _ h9 => h9) rfl (by rw [h.2.2.2.2.2.2.2.2.2.1]; exact hin) (by rw [hy]; rfl) (by decide +kernel) rfl rfl hlen hdg (fun H1 locs1 hP hD hS => ?_)
  rw [hw] at hP hD
  exact kk h H1 locs1 ls hP hD hS hl
theorem g_X3_19 (hy : y.cls = RX3) {a : Nat} {fs : List Value} {v : Value} (hdg : decode cc pc = .ok (.getfield 19, 3)) (q : Nat) (he : w[q]? = some (a, .inr (3, fs))) (hv : fs[3]? = some v) (kk : J D Γ y cc nL ret R Q k n w (pc + 3) lv (v :: st)) : J D Γ y cc nL ret R Q k n w pc lv (.ref a :: st) := by
  obtain ⟨p, e, s, m, args, below, meth, c, A⟩ := Γ
  intro h H locs ls hP hD hS hl
  exact va_get (C := RX3) (T := TX3) (N := 6) h.1 h.2.1 h.2.2.2.2.2.1 m_us_X3 h.2.2.2.2.1 h.2.2.2.2.2.2.2.1 hP q he rfl 3 (by decide) (by rw [hy]; exact h.2.2.2.2.2.1 _ m_fl_X3_19) (fun _ h9 => h9) hv hdg (kk h H locs ls hP hD hS hl)
theorem p_X3_19 (hy : y.cls = RX3) {a : Nat} {fs : List Value} {x : Int32} {w2 : va_W} (hdg : decode cc pc = .ok (.putfield 19, 3)) (q : Nat) (he : w[q]? = some (a, .inr (3, fs))) (hlen : 3 < fs.length) (hw : w.set q (a, .inr (3, fs.set 3 (.int x))) = w2) (kk : J D Γ y cc nL ret R Q k n w2 (pc + 3) lv st) : J D Γ y cc nL ret R Q k n w pc lv (.int x :: .ref a :: st) := by
  obtain ⟨p, e, s, m, args, below, meth, c, A⟩ := Γ
  intro h H locs ls hP hD hS hl
  refine va_put (C := RX3) (T := TX3) (N := 6) (ty := .int) h.1 h.2.1 h.2.2.2.2.2.1 m_us_X3 tyX3 tyX3_ok nmX3 h.2.2.2.2.1 h.2.2.2.2.2.2.2.1 hP hD hS q he rfl 3 (by decide) (by rw [hy]; exact h.2.2.2.2.2.1 _ m_fl_X3_19) (fun _ h9 => h9) rfl (by decide +kernel) rfl rfl hlen hdg (fun H1 locs1 hP hD hS => ?_)
  rw [hw] at hP hD
  exact kk h H1 locs1 ls hP hD hS hl
theorem g_X3_23 (hy : y.cls = RX3) {a : Nat} {fs : List Value} {v : Value} (hdg : decode cc pc = .ok (.getfield 23, 3)) (q : Nat) (he : w[q]? = some (a, .inr (3, fs))) (hv : fs[4]? = some v) (kk : J D Γ y cc nL ret R Q k n w (pc + 3) lv (v :: st)) : J D Γ y cc nL ret R Q k n w pc lv (.ref a :: st) := by
  obtain ⟨p, e, s, m, args, below, meth, c, A⟩ := Γ
  intro h H locs ls hP hD hS hl
  exact va_get (C := RX3) (T := TX3) (N := 6) h.1 h.2.1 h.2.2.2.2.2.1 m_us_X3 h.2.2.2.2.1 h.2.2.2.2.2.2.2.1 hP q he rfl 4 (by decide) (by rw [hy]; exact h.2.2.2.2.2.1 _ m_fl_X3_23) (fun _ h9 => h9) hv hdg (kk h H locs ls hP hD hS hl)
theorem p_X3_23 (hy : y.cls = RX3) {a : Nat} {fs : List Value} {x : Int32} {w2 : va_W} (hdg : decode cc pc = .ok (.putfield 23, 3)) (q : Nat) (he : w[q]? = some (a, .inr (3, fs))) (hlen : 4 < fs.length) (hw : w.set q (a, .inr (3, fs.set 4 (.int x))) = w2) (kk : J D Γ y cc nL ret R Q k n w2 (pc + 3) lv st) : J D Γ y cc nL ret R Q k n w pc lv (.int x :: .ref a :: st) := by
  obtain ⟨p, e, s, m, args, below, meth, c, A⟩ := Γ
  intro h H locs ls hP hD hS hl
  refine va_put (C := RX3) (T := TX3) (N := 6) (ty := .int) h.1 h.2.1 h.2.2.2.2.2.1 m_us_X3 tyX3 tyX3_ok nmX3 h.2.2.2.2.1 h.2.2.2.2.2.2.2.1 hP hD hS q he rfl 4 (by decide) (by rw [hy]; exact h.2.2.2.2.2.1 _ m_fl_X3_23) (fun _ h9 => h9) rfl (by decide +kernel) rfl rfl hlen hdg (fun H1 locs1 hP hD hS => ?_)
  rw [hw] at hP hD
  exact kk h H1 locs1 ls hP hD hS hl
theorem g_X3_26 (hy : y.cls = RX3) {a : Nat} {fs : List Value} {v : Value} (hdg : decode cc pc = .ok (.getfield 26, 3)) (q : Nat) (he : w[q]? = some (a, .inr (3, fs))) (hv : fs[5]? = some v) (kk : J D Γ y cc nL ret R Q k n w (pc + 3) lv (v :: st)) : J D Γ y cc nL ret R Q k n w pc lv (.ref a :: st) := by
  obtain ⟨p, e, s, m, args, below, meth, c, A⟩ := Γ
  intro h H locs ls hP hD hS hl
  exact va_get (C := RX3) (T := TX3) (N := 6) h.1 h.2.1 h.2.2.2.2.2.1 m_us_X3 h.2.2.2.2.1 h.2.2.2.2.2.2.2.1 hP q he rfl 5 (by decide) (by rw [hy]; exact h.2.2.2.2.2.1 _ m_fl_X3_26) (fun _ h9 => h9) hv hdg (kk h H locs ls hP hD hS hl)
theorem p_X3_26 (hy : y.cls = RX3) {a : Nat} {fs : List Value} {x : Int32} {w2 : va_W} (hdg : decode cc pc = .ok (.putfield 26, 3)) (q : Nat) (he : w[q]? = some (a, .inr (3, fs))) (hlen : 5 < fs.length) (hw : w.set q (a, .inr (3, fs.set 5 (.int x))) = w2) (kk : J D Γ y cc nL ret R Q k n w2 (pc + 3) lv st) : J D Γ y cc nL ret R Q k n w pc lv (.int x :: .ref a :: st) := by
  obtain ⟨p, e, s, m, args, below, meth, c, A⟩ := Γ
  intro h H locs ls hP hD hS hl
  refine va_put (C := RX3) (T := TX3) (N := 6) (ty := .int) h.1 h.2.1 h.2.2.2.2.2.1 m_us_X3 tyX3 tyX3_ok nmX3 h.2.2.2.2.1 h.2.2.2.2.2.2.2.1 hP hD hS q he rfl 5 (by decide) (by rw [hy]; exact h.2.2.2.2.2.1 _ m_fl_X3_26) (fun _ h9 => h9) rfl (by decide +kernel) rfl rfl hlen hdg (fun H1 locs1 hP hD hS => ?_)
  rw [hw] at hP hD
  exact kk h H1 locs1 ls hP hD hS hl
theorem g_X4_10 (hy : y.cls = RX4) {a : Nat} {fs : List Value} {v : Value} (hdg : decode cc pc = .ok (.getfield 10, 3)) (q : Nat) (he : w[q]? = some (a, .inr (4, fs))) (hv : fs[0]? = some v) (kk : J D Γ y cc nL ret R Q k n w (pc + 3) lv (v :: st)) : J D Γ y cc nL ret R Q k n w pc lv (.ref a :: st) := by
  obtain ⟨p, e, s, m, args, below, meth, c, A⟩ := Γ
  intro h H locs ls hP hD hS hl
  exact va_get (C := RX4) (T := TX4) (N := 7) h.1 h.2.1 h.2.2.2.2.2.1 m_us_X4 h.2.2.2.2.1 h.2.2.2.2.2.2.2.1 hP q he rfl 0 (by decide) (by rw [hy]; exact h.2.2.2.2.2.1 _ m_fl_X4_10) (fun _ h9 => h9) hv hdg (kk h H locs ls hP hD hS hl)
theorem p_X4_10 (hy : y.cls = RX4) (hin : y.name = "<init>") {a : Nat} {fs : List Value} {x : Nat} {w2 : va_W} (hdg : decode cc pc = .ok (.putfield 10, 3)) (q : Nat) (he : w[q]? = some (a, .inr (4, fs))) (hlen : 0 < fs.length) (hw : w.set q (a, .inr (4, fs.set 0 (.ref x))) = w2) (kk : J D Γ y cc nL ret R Q k n w2 (pc + 3) lv st) : J D Γ y cc nL ret R Q k n w pc lv (.ref x :: .ref a :: st) := by
  obtain ⟨p, e, s, m, args, below, meth, c, A⟩ := Γ
  intro h H locs ls hP hD hS hl
  refine va_putF (C := RX4) (T := TX4) (N := 7) (ty := (.object "TransferRings$Text")) h.1 h.2.1 h.2.2.2.2.2.1 m_us_X4 tyX4 tyX4_ok nmX4 h.2.2.2.2.1 h.2.2.2.2.2.2.2.1 hP hD hS q he rfl 0 (by decide) (by rw [hy]; exact h.2.2.2.2.2.1 _ m_fl_X4_10) (fun _ h9 => h9) rfl (by rw [h.2.2.2.2.2.2.2.2.2.1]; exact hin) (by rw [hy]; rfl) (by decide +kernel) rfl rfl hlen hdg (fun H1 locs1 hP hD hS => ?_)
  rw [hw] at hP hD
  exact kk h H1 locs1 ls hP hD hS hl
theorem g_X4_19 (hy : y.cls = RX4) {a : Nat} {fs : List Value} {v : Value} (hdg : decode cc pc = .ok (.getfield 19, 3)) (q : Nat) (he : w[q]? = some (a, .inr (4, fs))) (hv : fs[1]? = some v) (kk : J D Γ y cc nL ret R Q k n w (pc + 3) lv (v :: st)) : J D Γ y cc nL ret R Q k n w pc lv (.ref a :: st) := by
  obtain ⟨p, e, s, m, args, below, meth, c, A⟩ := Γ
  intro h H locs ls hP hD hS hl
  exact va_get (C := RX4) (T := TX4) (N := 7) h.1 h.2.1 h.2.2.2.2.2.1 m_us_X4 h.2.2.2.2.1 h.2.2.2.2.2.2.2.1 hP q he rfl 1 (by decide) (by rw [hy]; exact h.2.2.2.2.2.1 _ m_fl_X4_19) (fun _ h9 => h9) hv hdg (kk h H locs ls hP hD hS hl)
theorem p_X4_19 (hy : y.cls = RX4) (hin : y.name = "<init>") {a : Nat} {fs : List Value} {x : Nat} {w2 : va_W} (hdg : decode cc pc = .ok (.putfield 19, 3)) (q : Nat) (he : w[q]? = some (a, .inr (4, fs))) (hlen : 1 < fs.length) (hw : w.set q (a, .inr (4, fs.set 1 (.ref x))) = w2) (kk : J D Γ y cc nL ret R Q k n w2 (pc + 3) lv st) : J D Γ y cc nL ret R Q k n w pc lv (.ref x :: .ref a :: st) := by
  obtain ⟨p, e, s, m, args, below, meth, c, A⟩ := Γ
  intro h H locs ls hP hD hS hl
  refine va_putF (C := RX4) (T := TX4) (N := 7) (ty := (.object "TransferRings$Engine")) h.1 h.2.1 h.2.2.2.2.2.1 m_us_X4 tyX4 tyX4_ok nmX4 h.2.2.2.2.1 h.2.2.2.2.2.2.2.1 hP hD hS q he rfl 1 (by decide) (by rw [hy]; exact h.2.2.2.2.2.1 _ m_fl_X4_19) (fun _ h9 => h9) rfl (by rw [h.2.2.2.2.2.2.2.2.2.1]; exact hin) (by rw [hy]; rfl) (by decide +kernel) rfl rfl hlen hdg (fun H1 locs1 hP hD hS => ?_)
  rw [hw] at hP hD
  exact kk h H1 locs1 ls hP hD hS hl
theorem g_X4_23 (hy : y.cls = RX4) {a : Nat} {fs : List Value} {v : Value} (hdg : decode cc pc = .ok (.getfield 23, 3)) (q : Nat) (he : w[q]? = some (a, .inr (4, fs))) (hv : fs[2]? = some v) (kk : J D Γ y cc nL ret R Q k n w (pc + 3) lv (v :: st)) : J D Γ y cc nL ret R Q k n w pc lv (.ref a :: st) := by
  obtain ⟨p, e, s, m, args, below, meth, c, A⟩ := Γ
  intro h H locs ls hP hD hS hl
  exact va_get (C := RX4) (T := TX4) (N := 7) h.1 h.2.1 h.2.2.2.2.2.1 m_us_X4 h.2.2.2.2.1 h.2.2.2.2.2.2.2.1 hP q he rfl 2 (by decide) (by rw [hy]; exact h.2.2.2.2.2.1 _ m_fl_X4_23) (fun _ h9 => h9) hv hdg (kk h H locs ls hP hD hS hl)
theorem p_X4_23 (hy : y.cls = RX4) (hin : y.name = "<init>") {a : Nat} {fs : List Value} {x : Nat} {w2 : va_W} (hdg : decode cc pc = .ok (.putfield 23, 3)) (q : Nat) (he : w[q]? = some (a, .inr (4, fs))) (hlen : 2 < fs.length) (hw : w.set q (a, .inr (4, fs.set 2 (.ref x))) = w2) (kk : J D Γ y cc nL ret R Q k n w2 (pc + 3) lv st) : J D Γ y cc nL ret R Q k n w pc lv (.ref x :: .ref a :: st) := by
  obtain ⟨p, e, s, m, args, below, meth, c, A⟩ := Γ
  intro h H locs ls hP hD hS hl
  refine va_putF (C := RX4) (T := TX4) (N := 7) (ty := (.object "TransferRings$Engine")) h.1 h.2.1 h.2.2.2.2.2.1 m_us_X4 tyX4 tyX4_ok nmX4 h.2.2.2.2.1 h.2.2.2.2.2.2.2.1 hP hD hS q he rfl 2 (by decide) (by rw [hy]; exact h.2.2.2.2.2.1 _ m_fl_X4_23) (fun _ h9 => h9) rfl (by rw [h.2.2.2.2.2.2.2.2.2.1]; exact hin) (by rw [hy]; rfl) (by decide +kernel) rfl rfl hlen hdg (fun H1 locs1 hP hD hS => ?_)
  rw [hw] at hP hD
  exact kk h H1 locs1 ls hP hD hS hl
theorem g_X4_29 (hy : y.cls = RX4) {a : Nat} {fs : List Value} {v : Value} (hdg : decode cc pc = .ok (.getfield 29, 3)) (q : Nat) (he : w[q]? = some (a, .inr (4, fs))) (hv : fs[3]? = some v) (kk : J D Γ y cc nL ret R Q k n w (pc + 3) lv (v :: st)) : J D Γ y cc nL ret R Q k n w pc lv (.ref a :: st) := by
  obtain ⟨p, e, s, m, args, below, meth, c, A⟩ := Γ
  intro h H locs ls hP hD hS hl
  exact va_get (C := RX4) (T := TX4) (N := 7) h.1 h.2.1 h.2.2.2.2.2.1 m_us_X4 h.2.2.2.2.1 h.2.2.2.2.2.2.2.1 hP q he rfl 3 (by decide) (by rw [hy]; exact h.2.2.2.2.2.1 _ m_fl_X4_29) (fun _ h9 => h9) hv hdg (kk h H locs ls hP hD hS hl)
theorem p_X4_29 (hy : y.cls = RX4) (hin : y.name = "<init>") {a : Nat} {fs : List Value} {x : Nat} {w2 : va_W} (hdg : decode cc pc = .ok (.putfield 29, 3)) (q : Nat) (he : w[q]? = some (a, .inr (4, fs))) (hlen : 3 < fs.length) (hw : w.set q (a, .inr (4, fs.set 3 (.ref x))) = w2) (kk : J D Γ y cc nL ret R Q k n w2 (pc + 3) lv st) : J D Γ y cc nL ret R Q k n w pc lv (.ref x :: .ref a :: st) := by
  obtain ⟨p, e, s, m, args, below, meth, c, A⟩ := Γ
  intro h H locs ls hP hD hS hl
  refine va_putF (C := RX4) (T := TX4) (N := 7) (ty := (.object "TransferRings$History")) h.1 h.2.1 h.2.2.2.2.2.1 m_us_X4 tyX4 tyX4_ok nmX4 h.2.2.2.2.1 h.2.2.2.2.2.2.2.1 hP hD hS q he rfl 3 (by decide) (by rw [hy]; exact h.2.2.2.2.2.1 _ m_fl_X4_29) (fun _ h9 => h9) rfl (by rw [h.2.2.2.2.2.2.2.2.2.1]; exact hin) (by rw [hy]; rfl) (by decide +kernel) rfl rfl hlen hdg (fun H1 locs1 hP hD hS => ?_)
  rw [hw] at hP hD
  exact kk h H1 locs1 ls hP hD hS hl
theorem g_X4_36 (hy : y.cls = RX4) {a : Nat} {fs : List Value} {v : Value} (hdg : decode cc pc = .ok (.getfield 36, 3)) (q : Nat) (he : w[q]? = some (a, .inr (4, fs))) (hv : fs[4]? = some v) (kk : J D Γ y cc nL ret R Q k n w (pc + 3) lv (v :: st)) : J D Γ y cc nL ret R Q k n w pc lv (.ref a :: st) := by
  obtain ⟨p, e, s, m, args, below, meth, c, A⟩ := Γ
  intro h H locs ls hP hD hS hl
  exact va_get (C := RX4) (T := TX4) (N := 7) h.1 h.2.1 h.2.2.2.2.2.1 m_us_X4 h.2.2.2.2.1 h.2.2.2.2.2.2.2.1 hP q he rfl 4 (by decide) (by rw [hy]; exact h.2.2.2.2.2.1 _ m_fl_X4_36) (fun _ h9 => h9) hv hdg (kk h H locs ls hP hD hS hl)
theorem p_X4_36 (hy : y.cls = RX4) (hin : y.name = "<init>") {a : Nat} {fs : List Value} {x : Nat} {w2 : va_W} (hdg : decode cc pc = .ok (.putfield 36, 3)) (q : Nat) (he : w[q]? = some (a, .inr (4, fs))) (hlen : 4 < fs.length) (hw : w.set q (a, .inr (4, fs.set 4 (.ref x))) = w2) (kk : J D Γ y cc nL ret R Q k n w2 (pc + 3) lv st) : J D Γ y cc nL ret R Q k n w pc lv (.ref x :: .ref a :: st) := by
  obtain ⟨p, e, s, m, args, below, meth, c, A⟩ := Γ
  intro h H locs ls hP hD hS hl
  refine va_putF (C := RX4) (T := TX4) (N := 7) (ty := (.object "TransferRings$Sightings")) h.1 h.2.1 h.2.2.2.2.2.1 m_us_X4 tyX4 tyX4_ok nmX4 h.2.2.2.2.1 h.2.2.2.2.2.2.2.1 hP hD hS q he rfl 4 (by decide) (by rw [hy]; exact h.2.2.2.2.2.1 _ m_fl_X4_36) (fun _ h9 => h9) rfl (by rw [h.2.2.2.2.2.2.2.2.2.1]; exact hin) (by rw [hy]; rfl) (by decide +kernel) rfl rfl hlen hdg (fun H1 locs1 hP hD hS => ?_)
  rw [hw] at hP hD
  exact kk h H1 locs1 ls hP hD hS hl
theorem g_X4_40 (hy : y.cls = RX4) {a : Nat} {fs : List Value} {v : Value} (hdg : decode cc pc = .ok (.getfield 40, 3)) (q : Nat) (he : w[q]? = some (a, .inr (4, fs))) (hv : fs[5]? = some v) (kk : J D Γ y cc nL ret R Q k n w (pc + 3) lv (v :: st)) : J D Γ y cc nL ret R Q k n w pc lv (.ref a :: st) := by
  obtain ⟨p, e, s, m, args, below, meth, c, A⟩ := Γ
  intro h H locs ls hP hD hS hl
  exact va_get (C := RX4) (T := TX4) (N := 7) h.1 h.2.1 h.2.2.2.2.2.1 m_us_X4 h.2.2.2.2.1 h.2.2.2.2.2.2.2.1 hP q he rfl 5 (by decide) (by rw [hy]; exact h.2.2.2.2.2.1 _ m_fl_X4_40) (fun _ h9 => h9) hv hdg (kk h H locs ls hP hD hS hl)
theorem p_X4_40 (hy : y.cls = RX4) (hin : y.name = "<init>") {a : Nat} {fs : List Value} {x : Nat} {w2 : va_W} (hdg : decode cc pc = .ok (.putfield 40, 3)) (q : Nat) (he : w[q]? = some (a, .inr (4, fs))) (hlen : 5 < fs.length) (hw : w.set q (a, .inr (4, fs.set 5 (.ref x))) = w2) (kk : J D Γ y cc nL ret R Q k n w2 (pc + 3) lv st) : J D Γ y cc nL ret R Q k n w pc lv (.ref x :: .ref a :: st) := by
  obtain ⟨p, e, s, m, args, below, meth, c, A⟩ := Γ
  intro h H locs ls hP hD hS hl
  refine va_putF (C := RX4) (T := TX4) (N := 7) (ty := (.array (.object "TransferRings$Engine"))) h.1 h.2.1 h.2.2.2.2.2.1 m_us_X4 tyX4 tyX4_ok nmX4 h.2.2.2.2.1 h.2.2.2.2.2.2.2.1 hP hD hS q he rfl 5 (by decide) (by rw [hy]; exact h.2.2.2.2.2.1 _ m_fl_X4_40) (fun _ h9 => h9) rfl (by rw [h.2.2.2.2.2.2.2.2.2.1]; exact hin) (by rw [hy]; rfl) (by decide +kernel) rfl rfl hlen hdg (fun H1 locs1 hP hD hS => ?_)
  rw [hw] at hP hD
  exact kk h H1 locs1 ls hP hD hS hl
theorem g_X4_44 (hy : y.cls = RX4) {a : Nat} {fs : List Value} {v : Value} (hdg : decode cc pc = .ok (.getfield 44, 3)) (q : Nat) (he : w[q]? = some (a, .inr (4, fs))) (hv : fs[6]? = some v) (kk : J D Γ y cc nL ret R Q k n w (pc + 3) lv (v :: st)) : J D Γ y cc nL ret R Q k n w pc lv (.ref a :: st) := by
  obtain ⟨p, e, s, m, args, below, meth, c, A⟩ := Γ
  intro h H locs ls hP hD hS hl
  exact va_get (C := RX4) (T := TX4) (N := 7) h.1 h.2.1 h.2.2.2.2.2.1 m_us_X4 h.2.2.2.2.1 h.2.2.2.2.2.2.2.1 hP q he rfl 6 (by decide) (by rw [hy]; exact h.2.2.2.2.2.1 _ m_fl_X4_44) (fun _ h9 => h9) hv hdg (kk h H locs ls hP hD hS hl)
theorem p_X4_44 (hy : y.cls = RX4) (hin : y.name = "<init>") {a : Nat} {fs : List Value} {x : Nat} {w2 : va_W} (hdg : decode cc pc = .ok (.putfield 44, 3)) (q : Nat) (he : w[q]? = some (a, .inr (4, fs))) (hlen : 6 < fs.length) (hw : w.set q (a, .inr (4, fs.set 6 (.ref x))) = w2) (kk : J D Γ y cc nL ret R Q k n w2 (pc + 3) lv st) : J D Γ y cc nL ret R Q k n w pc lv (.ref x :: .ref a :: st) := by
  obtain ⟨p, e, s, m, args, below, meth, c, A⟩ := Γ
  intro h H locs ls hP hD hS hl
  refine va_putF (C := RX4) (T := TX4) (N := 7) (ty := (.array .boolean)) h.1 h.2.1 h.2.2.2.2.2.1 m_us_X4 tyX4 tyX4_ok nmX4 h.2.2.2.2.1 h.2.2.2.2.2.2.2.1 hP hD hS q he rfl 6 (by decide) (by rw [hy]; exact h.2.2.2.2.2.1 _ m_fl_X4_44) (fun _ h9 => h9) rfl (by rw [h.2.2.2.2.2.2.2.2.2.1]; exact hin) (by rw [hy]; rfl) (by decide +kernel) rfl rfl hlen hdg (fun H1 locs1 hP hD hS => ?_)
  rw [hw] at hP hD
  exact kk h H1 locs1 ls hP hD hS hl
theorem g_X4_56 (hy : y.cls = RX4) {a : Nat} {fs : List Value} {v : Value} (hdg : decode cc pc = .ok (.getfield 56, 3)) (q : Nat) (he : w[q]? = some (a, .inr (3, fs))) (hv : fs[4]? = some v) (kk : J D Γ y cc nL ret R Q k n w (pc + 3) lv (v :: st)) : J D Γ y cc nL ret R Q k n w pc lv (.ref a :: st) := by
  obtain ⟨p, e, s, m, args, below, meth, c, A⟩ := Γ
  intro h H locs ls hP hD hS hl
  exact va_get (C := RX3) (T := TX3) (N := 6) h.1 h.2.1 h.2.2.2.2.2.1 m_us_X3 h.2.2.2.2.1 h.2.2.2.2.2.2.2.1 hP q he rfl 4 (by decide) (by rw [hy]; exact h.2.2.2.2.2.1 _ m_fl_X4_56) (fun _ h9 => h9) hv hdg (kk h H locs ls hP hD hS hl)
theorem p_X4_56 (hy : y.cls = RX4) {a : Nat} {fs : List Value} {x : Int32} {w2 : va_W} (hdg : decode cc pc = .ok (.putfield 56, 3)) (q : Nat) (he : w[q]? = some (a, .inr (3, fs))) (hlen : 4 < fs.length) (hw : w.set q (a, .inr (3, fs.set 4 (.int x))) = w2) (kk : J D Γ y cc nL ret R Q k n w2 (pc + 3) lv st) : J D Γ y cc nL ret R Q k n w pc lv (.int x :: .ref a :: st) := by
  obtain ⟨p, e, s, m, args, below, meth, c, A⟩ := Γ
  intro h H locs ls hP hD hS hl
  refine va_put (C := RX3) (T := TX3) (N := 6) (ty := .int) h.1 h.2.1 h.2.2.2.2.2.1 m_us_X3 tyX3 tyX3_ok nmX3 h.2.2.2.2.1 h.2.2.2.2.2.2.2.1 hP hD hS q he rfl 4 (by decide) (by rw [hy]; exact h.2.2.2.2.2.1 _ m_fl_X4_56) (fun _ h9 => h9) rfl (by decide +kernel) rfl rfl hlen hdg (fun H1 locs1 hP hD hS => ?_)
  rw [hw] at hP hD
  exact kk h H1 locs1 ls hP hD hS hl
theorem g_X4_71 (hy : y.cls = RX4) {a : Nat} {fs : List Value} {v : Value} (hdg : decode cc pc = .ok (.getfield 71, 3)) (q : Nat) (he : w[q]? = some (a, .inr (3, fs))) (hv : fs[5]? = some v) (kk : J D Γ y cc nL ret R Q k n w (pc + 3) lv (v :: st)) : J D Γ y cc nL ret R Q k n w pc lv (.ref a :: st) := by
  obtain ⟨p, e, s, m, args, below, meth, c, A⟩ := Γ
  intro h H locs ls hP hD hS hl
  exact va_get (C := RX3) (T := TX3) (N := 6) h.1 h.2.1 h.2.2.2.2.2.1 m_us_X3 h.2.2.2.2.1 h.2.2.2.2.2.2.2.1 hP q he rfl 5 (by decide) (by rw [hy]; exact h.2.2.2.2.2.1 _ m_fl_X4_71) (fun _ h9 => h9) hv hdg (kk h H locs ls hP hD hS hl)
theorem p_X4_71 (hy : y.cls = RX4) {a : Nat} {fs : List Value} {x : Int32} {w2 : va_W} (hdg : decode cc pc = .ok (.putfield 71, 3)) (q : Nat) (he : w[q]? = some (a, .inr (3, fs))) (hlen : 5 < fs.length) (hw : w.set q (a, .inr (3, fs.set 5 (.int x))) = w2) (kk : J D Γ y cc nL ret R Q k n w2 (pc + 3) lv st) : J D Γ y cc nL ret R Q k n w pc lv (.int x :: .ref a :: st) := by
  obtain ⟨p, e, s, m, args, below, meth, c, A⟩ := Γ
  intro h H locs ls hP hD hS hl
  refine va_put (C := RX3) (T := TX3) (N := 6) (ty := .int) h.1 h.2.1 h.2.2.2.2.2.1 m_us_X3 tyX3 tyX3_ok nmX3 h.2.2.2.2.1 h.2.2.2.2.2.2.2.1 hP hD hS q he rfl 5 (by decide) (by rw [hy]; exact h.2.2.2.2.2.1 _ m_fl_X4_71) (fun _ h9 => h9) rfl (by decide +kernel) rfl rfl hlen hdg (fun H1 locs1 hP hD hS => ?_)
  rw [hw] at hP hD
  exact kk h H1 locs1 ls hP hD hS hl
theorem g_X4_107 (hy : y.cls = RX4) {a : Nat} {fs : List Value} {v : Value} (hdg : decode cc pc = .ok (.getfield 107, 3)) (q : Nat) (he : w[q]? = some (a, .inr (1, fs))) (hv : fs[2]? = some v) (kk : J D Γ y cc nL ret R Q k n w (pc + 3) lv (v :: st)) : J D Γ y cc nL ret R Q k n w pc lv (.ref a :: st) := by
  obtain ⟨p, e, s, m, args, below, meth, c, A⟩ := Γ
  intro h H locs ls hP hD hS hl
  exact va_get (C := RX1) (T := TX1) (N := 3) h.1 h.2.1 h.2.2.2.2.2.1 m_us_X1 h.2.2.2.2.1 h.2.2.2.2.2.2.2.1 hP q he rfl 2 (by decide) (by rw [hy]; exact h.2.2.2.2.2.1 _ m_fl_X4_107) (fun _ h9 => h9) hv hdg (kk h H locs ls hP hD hS hl)
theorem p_X4_107 (hy : y.cls = RX4) {a : Nat} {fs : List Value} {x : Int32} {w2 : va_W} (hdg : decode cc pc = .ok (.putfield 107, 3)) (q : Nat) (he : w[q]? = some (a, .inr (1, fs))) (hlen : 2 < fs.length) (hw : w.set q (a, .inr (1, fs.set 2 (.int x))) = w2) (kk : J D Γ y cc nL ret R Q k n w2 (pc + 3) lv st) : J D Γ y cc nL ret R Q k n w pc lv (.int x :: .ref a :: st) := by
  obtain ⟨p, e, s, m, args, below, meth, c, A⟩ := Γ
  intro h H locs ls hP hD hS hl
  refine va_put (C := RX1) (T := TX1) (N := 3) (ty := .int) h.1 h.2.1 h.2.2.2.2.2.1 m_us_X1 tyX1 tyX1_ok nmX1 h.2.2.2.2.1 h.2.2.2.2.2.2.2.1 hP hD hS q he rfl 2 (by decide) (by rw [hy]; exact h.2.2.2.2.2.1 _ m_fl_X4_107) (fun _ h9 => h9) rfl (by decide +kernel) rfl rfl hlen hdg (fun H1 locs1 hP hD hS => ?_)
  rw [hw] at hP hD
  exact kk h H1 locs1 ls hP hD hS hl
theorem g_X4_110 (hy : y.cls = RX4) {a : Nat} {fs : List Value} {v : Value} (hdg : decode cc pc = .ok (.getfield 110, 3)) (q : Nat) (he : w[q]? = some (a, .inr (0, fs))) (hv : fs[0]? = some v) (kk : J D Γ y cc nL ret R Q k n w (pc + 3) lv (v :: st)) : J D Γ y cc nL ret R Q k n w pc lv (.ref a :: st) := by
  obtain ⟨p, e, s, m, args, below, meth, c, A⟩ := Γ
  intro h H locs ls hP hD hS hl
  exact va_get (C := RX0) (T := TX0) (N := 7) h.1 h.2.1 h.2.2.2.2.2.1 m_us_X0 h.2.2.2.2.1 h.2.2.2.2.2.2.2.1 hP q he rfl 0 (by decide) (by rw [hy]; exact h.2.2.2.2.2.1 _ m_fl_X4_110) (fun _ h9 => h9) hv hdg (kk h H locs ls hP hD hS hl)
theorem g_X4_140 (hy : y.cls = RX4) {a : Nat} {fs : List Value} {v : Value} (hdg : decode cc pc = .ok (.getfield 140, 3)) (q : Nat) (he : w[q]? = some (a, .inr (0, fs))) (hv : fs[4]? = some v) (kk : J D Γ y cc nL ret R Q k n w (pc + 3) lv (v :: st)) : J D Γ y cc nL ret R Q k n w pc lv (.ref a :: st) := by
  obtain ⟨p, e, s, m, args, below, meth, c, A⟩ := Γ
  intro h H locs ls hP hD hS hl
  exact va_get (C := RX0) (T := TX0) (N := 7) h.1 h.2.1 h.2.2.2.2.2.1 m_us_X0 h.2.2.2.2.1 h.2.2.2.2.2.2.2.1 hP q he rfl 4 (by decide) (by rw [hy]; exact h.2.2.2.2.2.1 _ m_fl_X4_140) (fun _ h9 => h9) hv hdg (kk h H locs ls hP hD hS hl)
theorem p_X4_140 (hy : y.cls = RX4) {a : Nat} {fs : List Value} {x : Int32} {w2 : va_W} (hdg : decode cc pc = .ok (.putfield 140, 3)) (q : Nat) (he : w[q]? = some (a, .inr (0, fs))) (hlen : 4 < fs.length) (hw : w.set q (a, .inr (0, fs.set 4 (.int x))) = w2) (kk : J D Γ y cc nL ret R Q k n w2 (pc + 3) lv st) : J D Γ y cc nL ret R Q k n w pc lv (.int x :: .ref a :: st) := by
  obtain ⟨p, e, s, m, args, below, meth, c, A⟩ := Γ
  intro h H locs ls hP hD hS hl
  refine va_put (C := RX0) (T := TX0) (N := 7) (ty := .int) h.1 h.2.1 h.2.2.2.2.2.1 m_us_X0 tyX0 tyX0_ok nmX0 h.2.2.2.2.1 h.2.2.2.2.2.2.2.1 hP hD hS q he rfl 4 (by decide) (by rw [hy]; exact h.2.2.2.2.2.1 _ m_fl_X4_140) (fun _ h9 => h9) rfl (by decide +kernel) rfl rfl hlen hdg (fun H1 locs1 hP hD hS => ?_)
  rw [hw] at hP hD
  exact kk h H1 locs1 ls hP hD hS hl
theorem g_X4_143 (hy : y.cls = RX4) {a : Nat} {fs : List Value} {v : Value} (hdg : decode cc pc = .ok (.getfield 143, 3)) (q : Nat) (he : w[q]? = some (a, .inr (0, fs))) (hv : fs[3]? = some v) (kk : J D Γ y cc nL ret R Q k n w (pc + 3) lv (v :: st)) : J D Γ y cc nL ret R Q k n w pc lv (.ref a :: st) := by
  obtain ⟨p, e, s, m, args, below, meth, c, A⟩ := Γ
  intro h H locs ls hP hD hS hl
  exact va_get (C := RX0) (T := TX0) (N := 7) h.1 h.2.1 h.2.2.2.2.2.1 m_us_X0 h.2.2.2.2.1 h.2.2.2.2.2.2.2.1 hP q he rfl 3 (by decide) (by rw [hy]; exact h.2.2.2.2.2.1 _ m_fl_X4_143) (fun _ h9 => h9) hv hdg (kk h H locs ls hP hD hS hl)
theorem g_X4_165 (hy : y.cls = RX4) {a : Nat} {fs : List Value} {v : Value} (hdg : decode cc pc = .ok (.getfield 165, 3)) (q : Nat) (he : w[q]? = some (a, .inr (2, fs))) (hv : fs[2]? = some v) (kk : J D Γ y cc nL ret R Q k n w (pc + 3) lv (v :: st)) : J D Γ y cc nL ret R Q k n w pc lv (.ref a :: st) := by
  obtain ⟨p, e, s, m, args, below, meth, c, A⟩ := Γ
  intro h H locs ls hP hD hS hl
  exact va_get (C := RX2) (T := TX2) (N := 3) h.1 h.2.1 h.2.2.2.2.2.1 m_us_X2 h.2.2.2.2.1 h.2.2.2.2.2.2.2.1 hP q he rfl 2 (by decide) (by rw [hy]; exact h.2.2.2.2.2.1 _ m_fl_X4_165) (fun _ h9 => h9) hv hdg (kk h H locs ls hP hD hS hl)
theorem p_X4_165 (hy : y.cls = RX4) {a : Nat} {fs : List Value} {x : Int32} {w2 : va_W} (hdg : decode cc pc = .ok (.putfield 165, 3)) (q : Nat) (he : w[q]? = some (a, .inr (2, fs))) (hlen : 2 < fs.length) (hw : w.set q (a, .inr (2, fs.set 2 (.int x))) = w2) (kk : J D Γ y cc nL ret R Q k n w2 (pc + 3) lv st) : J D Γ y cc nL ret R Q k n w pc lv (.int x :: .ref a :: st) := by
  obtain ⟨p, e, s, m, args, below, meth, c, A⟩ := Γ
  intro h H locs ls hP hD hS hl
  refine va_put (C := RX2) (T := TX2) (N := 3) (ty := .int) h.1 h.2.1 h.2.2.2.2.2.1 m_us_X2 tyX2 tyX2_ok nmX2 h.2.2.2.2.1 h.2.2.2.2.2.2.2.1 hP hD hS q he rfl 2 (by decide) (by rw [hy]; exact h.2.2.2.2.2.1 _ m_fl_X4_165) (fun _ h9 => h9) rfl (by decide +kernel) rfl rfl hlen hdg (fun H1 locs1 hP hD hS => ?_)
  rw [hw] at hP hD
  exact kk h H1 locs1 ls hP hD hS hl
theorem g_X4_180 (hy : y.cls = RX4) {a : Nat} {fs : List Value} {v : Value} (hdg : decode cc pc = .ok (.getfield 180, 3)) (q : Nat) (he : w[q]? = some (a, .inr (0, fs))) (hv : fs[5]? = some v) (kk : J D Γ y cc nL ret R Q k n w (pc + 3) lv (v :: st)) : J D Γ y cc nL ret R Q k n w pc lv (.ref a :: st) := by
  obtain ⟨p, e, s, m, args, below, meth, c, A⟩ := Γ
  intro h H locs ls hP hD hS hl
  exact va_get (C := RX0) (T := TX0) (N := 7) h.1 h.2.1 h.2.2.2.2.2.1 m_us_X0 h.2.2.2.2.1 h.2.2.2.2.2.2.2.1 hP q he rfl 5 (by decide) (by rw [hy]; exact h.2.2.2.2.2.1 _ m_fl_X4_180) (fun _ h9 => h9) hv hdg (kk h H locs ls hP hD hS hl)
theorem p_X4_180 (hy : y.cls = RX4) {a : Nat} {fs : List Value} {x : Int32} {w2 : va_W} (hdg : decode cc pc = .ok (.putfield 180, 3)) (q : Nat) (he : w[q]? = some (a, .inr (0, fs))) (hlen : 5 < fs.length) (hw : w.set q (a, .inr (0, fs.set 5 (.int x))) = w2) (kk : J D Γ y cc nL ret R Q k n w2 (pc + 3) lv st) : J D Γ y cc nL ret R Q k n w pc lv (.int x :: .ref a :: st) := by
  obtain ⟨p, e, s, m, args, below, meth, c, A⟩ := Γ
  intro h H locs ls hP hD hS hl
  refine va_put (C := RX0) (T := TX0) (N := 7) (ty := .int) h.1 h.2.1 h.2.2.2.2.2.1 m_us_X0 tyX0 tyX0_ok nmX0 h.2.2.2.2.1 h.2.2.2.2.2.2.2.1 hP hD hS q he rfl 5 (by decide) (by rw [hy]; exact h.2.2.2.2.2.1 _ m_fl_X4_180) (fun _ h9 => h9) rfl (by decide +kernel) rfl rfl hlen hdg (fun H1 locs1 hP hD hS => ?_)
  rw [hw] at hP hD
  exact kk h H1 locs1 ls hP hD hS hl
theorem g_X4_183 (hy : y.cls = RX4) {a : Nat} {fs : List Value} {v : Value} (hdg : decode cc pc = .ok (.getfield 183, 3)) (q : Nat) (he : w[q]? = some (a, .inr (0, fs))) (hv : fs[6]? = some v) (kk : J D Γ y cc nL ret R Q k n w (pc + 3) lv (v :: st)) : J D Γ y cc nL ret R Q k n w pc lv (.ref a :: st) := by
  obtain ⟨p, e, s, m, args, below, meth, c, A⟩ := Γ
  intro h H locs ls hP hD hS hl
  exact va_get (C := RX0) (T := TX0) (N := 7) h.1 h.2.1 h.2.2.2.2.2.1 m_us_X0 h.2.2.2.2.1 h.2.2.2.2.2.2.2.1 hP q he rfl 6 (by decide) (by rw [hy]; exact h.2.2.2.2.2.1 _ m_fl_X4_183) (fun _ h9 => h9) hv hdg (kk h H locs ls hP hD hS hl)
theorem p_X4_183 (hy : y.cls = RX4) {a : Nat} {fs : List Value} {x : Int32} {w2 : va_W} (hdg : decode cc pc = .ok (.putfield 183, 3)) (q : Nat) (he : w[q]? = some (a, .inr (0, fs))) (hlen : 6 < fs.length) (hw : w.set q (a, .inr (0, fs.set 6 (.int x))) = w2) (kk : J D Γ y cc nL ret R Q k n w2 (pc + 3) lv st) : J D Γ y cc nL ret R Q k n w pc lv (.int x :: .ref a :: st) := by
  obtain ⟨p, e, s, m, args, below, meth, c, A⟩ := Γ
  intro h H locs ls hP hD hS hl
  refine va_put (C := RX0) (T := TX0) (N := 7) (ty := .int) h.1 h.2.1 h.2.2.2.2.2.1 m_us_X0 tyX0 tyX0_ok nmX0 h.2.2.2.2.1 h.2.2.2.2.2.2.2.1 hP hD hS q he rfl 6 (by decide) (by rw [hy]; exact h.2.2.2.2.2.1 _ m_fl_X4_183) (fun _ h9 => h9) rfl (by decide +kernel) rfl rfl hlen hdg (fun H1 locs1 hP hD hS => ?_)
  rw [hw] at hP hD
  exact kk h H1 locs1 ls hP hD hS hl
theorem g_X5_7 (hy : y.cls = RX5) {a : Nat} {fs : List Value} {v : Value} (hdg : decode cc pc = .ok (.getfield 7, 3)) (q : Nat) (he : w[q]? = some (a, .inr (5, fs))) (hv : fs[0]? = some v) (kk : J D Γ y cc nL ret R Q k n w (pc + 3) lv (v :: st)) : J D Γ y cc nL ret R Q k n w pc lv (.ref a :: st) := by
  obtain ⟨p, e, s, m, args, below, meth, c, A⟩ := Γ
  intro h H locs ls hP hD hS hl
  exact va_get (C := RX5) (T := TX5) (N := 17) h.1 h.2.1 h.2.2.2.2.2.1 m_us_X5 h.2.2.2.2.1 h.2.2.2.2.2.2.2.1 hP q he rfl 0 (by decide) (by rw [hy]; exact h.2.2.2.2.2.1 _ m_fl_X5_7) (fun _ h9 => h9) hv hdg (kk h H locs ls hP hD hS hl)
theorem p_X5_7 (hy : y.cls = RX5) (hin : y.name = "<init>") {a : Nat} {fs : List Value} {x : Nat} {w2 : va_W} (hdg : decode cc pc = .ok (.putfield 7, 3)) (q : Nat) (he : w[q]? = some (a, .inr (5, fs))) (hlen : 0 < fs.length) (hw : w.set q (a, .inr (5, fs.set 0 (.ref x))) = w2) (kk : J D Γ y cc nL ret R Q k n w2 (pc + 3) lv st) : J D Γ y cc nL ret R Q k n w pc lv (.ref x :: .ref a :: st) := by
  obtain ⟨p, e, s, m, args, below, meth, c, A⟩ := Γ
  intro h H locs ls hP hD hS hl
  refine va_putF (C := RX5) (T := TX5) (N := 17) (ty := (.array .int)) h.1 h.2.1 h.2.2.2.2.2.1 m_us_X5 tyX5 tyX5_ok nmX5 h.2.2.2.2.1 h.2.2.2.2.2.2.2.1 hP hD hS q he rfl 0 (by decide) (by rw [hy]; exact h.2.2.2.2.2.1 _ m_fl_X5_7) (fun _ h9 => h9) rfl (by rw [h.2.2.2.2.2.2.2.2.2.1]; exact hin) (by rw [hy]; rfl) (by decide +kernel) rfl rfl hlen hdg (fun H1 locs1 hP hD hS => ?_)
  rw [hw] at hP hD
  exact kk h H1 locs1 ls hP hD hS hl
theorem g_X5_13 (hy : y.cls = RX5) {a : Nat} {fs : List Value} {v : Value} (hdg : decode cc pc = .ok (.getfield 13, 3)) (q : Nat) (he : w[q]? = some (a, .inr (5, fs))) (hv : fs[2]? = some v) (kk : J D Γ y cc nL ret R Q k n w (pc + 3) lv (v :: st)) : J D Γ y cc nL ret R Q k n w pc lv (.ref a :: st) := by
  obtain ⟨p, e, s, m, args, below, meth, c, A⟩ := Γ
  intro h H locs ls hP hD hS hl
  exact va_get (C := RX5) (T := TX5) (N := 17) h.1 h.2.1 h.2.2.2.2.2.1 m_us_X5 h.2.2.2.2.1 h.2.2.2.2.2.2.2.1 hP q he rfl 2 (by decide) (by rw [hy]; exact h.2.2.2.2.2.1 _ m_fl_X5_13) (fun _ h9 => h9) hv hdg (kk h H locs ls hP hD hS hl)
theorem p_X5_13 (hy : y.cls = RX5) (hin : y.name = "<init>") {a : Nat} {fs : List Value} {x : Nat} {w2 : va_W} (hdg : decode cc pc = .ok (.putfield 13, 3)) (q : Nat) (he : w[q]? = some (a, .inr (5, fs))) (hlen : 2 < fs.length) (hw : w.set q (a, .inr (5, fs.set 2 (.ref x))) = w2) (kk : J D Γ y cc nL ret R Q k n w2 (pc + 3) lv st) : J D Γ y cc nL ret R Q k n w pc lv (.ref x :: .ref a :: st) := by
  obtain ⟨p, e, s, m, args, below, meth, c, A⟩ := Γ
  intro h H locs ls hP hD hS hl
  refine va_putF (C := RX5) (T := TX5) (N := 17) (ty := (.array .int)) h.1 h.2.1 h.2.2.2.2.2.1 m_us_X5 tyX5 tyX5_ok nmX5 h.2.2.2.2.1 h.2.2.2.2.2.2.2.1 hP hD hS q he rfl 2 (by decide) (by rw [hy]; exact h.2.2.2.2.2.1 _ m_fl_X5_13) (fun _ h9 => h9) rfl (by rw [h.2.2.2.2.2.2.2.2.2.1]; exact hin) (by rw [hy]; rfl) (by decide +kernel) rfl rfl hlen hdg (fun H1 locs1 hP hD hS => ?_)
  rw [hw] at hP hD
  exact kk h H1 locs1 ls hP hD hS hl
theorem g_X5_16 (hy : y.cls = RX5) {a : Nat} {fs : List Value} {v : Value} (hdg : decode cc pc = .ok (.getfield 16, 3)) (q : Nat) (he : w[q]? = some (a, .inr (5, fs))) (hv : fs[3]? = some v) (kk : J D Γ y cc nL ret R Q k n w (pc + 3) lv (v :: st)) : J D Γ y cc nL ret R Q k n w pc lv (.ref a :: st) := by
  obtain ⟨p, e, s, m, args, below, meth, c, A⟩ := Γ
  intro h H locs ls hP hD hS hl
  exact va_get (C := RX5) (T := TX5) (N := 17) h.1 h.2.1 h.2.2.2.2.2.1 m_us_X5 h.2.2.2.2.1 h.2.2.2.2.2.2.2.1 hP q he rfl 3 (by decide) (by rw [hy]; exact h.2.2.2.2.2.1 _ m_fl_X5_16) (fun _ h9 => h9) hv hdg (kk h H locs ls hP hD hS hl)
theorem p_X5_16 (hy : y.cls = RX5) (hin : y.name = "<init>") {a : Nat} {fs : List Value} {x : Nat} {w2 : va_W} (hdg : decode cc pc = .ok (.putfield 16, 3)) (q : Nat) (he : w[q]? = some (a, .inr (5, fs))) (hlen : 3 < fs.length) (hw : w.set q (a, .inr (5, fs.set 3 (.ref x))) = w2) (kk : J D Γ y cc nL ret R Q k n w2 (pc + 3) lv st) : J D Γ y cc nL ret R Q k n w pc lv (.ref x :: .ref a :: st) := by
  obtain ⟨p, e, s, m, args, below, meth, c, A⟩ := Γ
  intro h H locs ls hP hD hS hl
  refine va_putF (C := RX5) (T := TX5) (N := 17) (ty := (.array .boolean)) h.1 h.2.1 h.2.2.2.2.2.1 m_us_X5 tyX5 tyX5_ok nmX5 h.2.2.2.2.1 h.2.2.2.2.2.2.2.1 hP hD hS q he rfl 3 (by decide) (by rw [hy]; exact h.2.2.2.2.2.1 _ m_fl_X5_16) (fun _ h9 => h9) rfl (by rw [h.2.2.2.2.2.2.2.2.2.1]; exact hin) (by rw [hy]; rfl) (by decide +kernel) rfl rfl hlen hdg (fun H1 locs1 hP hD hS => ?_)
  rw [hw] at hP hD
  exact kk h H1 locs1 ls hP hD hS hl
theorem g_X5_20 (hy : y.cls = RX5) {a : Nat} {fs : List Value} {v : Value} (hdg : decode cc pc = .ok (.getfield 20, 3)) (q : Nat) (he : w[q]? = some (a, .inr (5, fs))) (hv : fs[4]? = some v) (kk : J D Γ y cc nL ret R Q k n w (pc + 3) lv (v :: st)) : J D Γ y cc nL ret R Q k n w pc lv (.ref a :: st) := by
  obtain ⟨p, e, s, m, args, below, meth, c, A⟩ := Γ
  intro h H locs ls hP hD hS hl
  exact va_get (C := RX5) (T := TX5) (N := 17) h.1 h.2.1 h.2.2.2.2.2.1 m_us_X5 h.2.2.2.2.1 h.2.2.2.2.2.2.2.1 hP q he rfl 4 (by decide) (by rw [hy]; exact h.2.2.2.2.2.1 _ m_fl_X5_20) (fun _ h9 => h9) hv hdg (kk h H locs ls hP hD hS hl)
theorem p_X5_20 (hy : y.cls = RX5) (hin : y.name = "<init>") {a : Nat} {fs : List Value} {x : Nat} {w2 : va_W} (hdg : decode cc pc = .ok (.putfield 20, 3)) (q : Nat) (he : w[q]? = some (a, .inr (5, fs))) (hlen : 4 < fs.length) (hw : w.set q (a, .inr (5, fs.set 4 (.ref x))) = w2) (kk : J D Γ y cc nL ret R Q k n w2 (pc + 3) lv st) : J D Γ y cc nL ret R Q k n w pc lv (.ref x :: .ref a :: st) := by
  obtain ⟨p, e, s, m, args, below, meth, c, A⟩ := Γ
  intro h H locs ls hP hD hS hl
  refine va_putF (C := RX5) (T := TX5) (N := 17) (ty := (.array .int)) h.1 h.2.1 h.2.2.2.2.2.1 m_us_X5 tyX5 tyX5_ok nmX5 h.2.2.2.2.1 h.2.2.2.2.2.2.2.1 hP hD hS q he rfl 4 (by decide) (by rw [hy]; exact h.2.2.2.2.2.1 _ m_fl_X5_20) (fun _ h9 => h9) rfl (by rw [h.2.2.2.2.2.2.2.2.2.1]; exact hin) (by rw [hy]; rfl) (by decide +kernel) rfl rfl hlen hdg (fun H1 locs1 hP hD hS => ?_)
  rw [hw] at hP hD
  exact kk h H1 locs1 ls hP hD hS hl
theorem g_X5_23 (hy : y.cls = RX5) {a : Nat} {fs : List Value} {v : Value} (hdg : decode cc pc = .ok (.getfield 23, 3)) (q : Nat) (he : w[q]? = some (a, .inr (5, fs))) (hv : fs[5]? = some v) (kk : J D Γ y cc nL ret R Q k n w (pc + 3) lv (v :: st)) : J D Γ y cc nL ret R Q k n w pc lv (.ref a :: st) := by
  obtain ⟨p, e, s, m, args, below, meth, c, A⟩ := Γ
  intro h H locs ls hP hD hS hl
  exact va_get (C := RX5) (T := TX5) (N := 17) h.1 h.2.1 h.2.2.2.2.2.1 m_us_X5 h.2.2.2.2.1 h.2.2.2.2.2.2.2.1 hP q he rfl 5 (by decide) (by rw [hy]; exact h.2.2.2.2.2.1 _ m_fl_X5_23) (fun _ h9 => h9) hv hdg (kk h H locs ls hP hD hS hl)
theorem p_X5_23 (hy : y.cls = RX5) (hin : y.name = "<init>") {a : Nat} {fs : List Value} {x : Nat} {w2 : va_W} (hdg : decode cc pc = .ok (.putfield 23, 3)) (q : Nat) (he : w[q]? = some (a, .inr (5, fs))) (hlen : 5 < fs.length) (hw : w.set q (a, .inr (5, fs.set 5 (.ref x))) = w2) (kk : J D Γ y cc nL ret R Q k n w2 (pc + 3) lv st) : J D Γ y cc nL ret R Q k n w pc lv (.ref x :: .ref a :: st) := by
  obtain ⟨p, e, s, m, args, below, meth, c, A⟩ := Γ
  intro h H locs ls hP hD hS hl
  refine va_putF (C := RX5) (T := TX5) (N := 17) (ty := (.array .int)) h.1 h.2.1 h.2.2.2.2.2.1 m_us_X5 tyX5 tyX5_ok nmX5 h.2.2.2.2.1 h.2.2.2.2.2.2.2.1 hP hD hS q he rfl 5 (by decide) (by rw [hy]; exact h.2.2.2.2.2.1 _ m_fl_X5_23) (fun _ h9 => h9) rfl (by rw [h.2.2.2.2.2.2.2.2.2.1]; exact hin) (by rw [hy]; rfl) (by decide +kernel) rfl rfl hlen hdg (fun H1 locs1 hP hD hS => ?_)
  rw [hw] at hP hD
  exact kk h H1 locs1 ls hP hD hS hl
theorem g_X5_26 (hy : y.cls = RX5) {a : Nat} {fs : List Value} {v : Value} (hdg : decode cc pc = .ok (.getfield 26, 3)) (q : Nat) (he : w[q]? = some (a, .inr (5, fs))) (hv : fs[7]? = some v) (kk : J D Γ y cc nL ret R Q k n w (pc + 3) lv (v :: st)) : J D Γ y cc nL ret R Q k n w pc lv (.ref a :: st) := by
  obtain ⟨p, e, s, m, args, below, meth, c, A⟩ := Γ
  intro h H locs ls hP hD hS hl
  exact va_get (C := RX5) (T := TX5) (N := 17) h.1 h.2.1 h.2.2.2.2.2.1 m_us_X5 h.2.2.2.2.1 h.2.2.2.2.2.2.2.1 hP q he rfl 7 (by decide) (by rw [hy]; exact h.2.2.2.2.2.1 _ m_fl_X5_26) (fun _ h9 => h9) hv hdg (kk h H locs ls hP hD hS hl)
theorem p_X5_26 (hy : y.cls = RX5) (hin : y.name = "<init>") {a : Nat} {fs : List Value} {x : Nat} {w2 : va_W} (hdg : decode cc pc = .ok (.putfield 26, 3)) (q : Nat) (he : w[q]? = some (a, .inr (5, fs))) (hlen : 7 < fs.length) (hw : w.set q (a, .inr (5, fs.set 7 (.ref x))) = w2) (kk : J D Γ y cc nL ret R Q k n w2 (pc + 3) lv st) : J D Γ y cc nL ret R Q k n w pc lv (.ref x :: .ref a :: st) := by
  obtain ⟨p, e, s, m, args, below, meth, c, A⟩ := Γ
  intro h H locs ls hP hD hS hl
  refine va_putF (C := RX5) (T := TX5) (N := 17) (ty := (.array .int)) h.1 h.2.1 h.2.2.2.2.2.1 m_us_X5 tyX5 tyX5_ok nmX5 h.2.2.2.2.1 h.2.2.2.2.2.2.2.1 hP hD hS q he rfl 7 (by decide) (by rw [hy]; exact h.2.2.2.2.2.1 _ m_fl_X5_26) (fun _ h9 => h9) rfl (by rw [h.2.2.2.2.2.2.2.2.2.1]; exact hin) (by rw [hy]; rfl) (by decide +kernel) rfl rfl hlen hdg (fun H1 locs1 hP hD hS => ?_)
  rw [hw] at hP hD
  exact kk h H1 locs1 ls hP hD hS hl
theorem g_X5_29 (hy : y.cls = RX5) {a : Nat} {fs : List Value} {v : Value} (hdg : decode cc pc = .ok (.getfield 29, 3)) (q : Nat) (he : w[q]? = some (a, .inr (5, fs))) (hv : fs[8]? = some v) (kk : J D Γ y cc nL ret R Q k n w (pc + 3) lv (v :: st)) : J D Γ y cc nL ret R Q k n w pc lv (.ref a :: st) := by
  obtain ⟨p, e, s, m, args, below, meth, c, A⟩ := Γ
  intro h H locs ls hP hD hS hl
  exact va_get (C := RX5) (T := TX5) (N := 17) h.1 h.2.1 h.2.2.2.2.2.1 m_us_X5 h.2.2.2.2.1 h.2.2.2.2.2.2.2.1 hP q he rfl 8 (by decide) (by rw [hy]; exact h.2.2.2.2.2.1 _ m_fl_X5_29) (fun _ h9 => h9) hv hdg (kk h H locs ls hP hD hS hl)
theorem p_X5_29 (hy : y.cls = RX5) (hin : y.name = "<init>") {a : Nat} {fs : List Value} {x : Nat} {w2 : va_W} (hdg : decode cc pc = .ok (.putfield 29, 3)) (q : Nat) (he : w[q]? = some (a, .inr (5, fs))) (hlen : 8 < fs.length) (hw : w.set q (a, .inr (5, fs.set 8 (.ref x))) = w2) (kk : J D Γ y cc nL ret R Q k n w2 (pc + 3) lv st) : J D Γ y cc nL ret R Q k n w pc lv (.ref x :: .ref a :: st) := by
  obtain ⟨p, e, s, m, args, below, meth, c, A⟩ := Γ
  intro h H locs ls hP hD hS hl
  refine va_putF (C := RX5) (T := TX5) (N := 17) (ty := (.array .int)) h.1 h.2.1 h.2.2.2.2.2.1 m_us_X5 tyX5 tyX5_ok nmX5 h.2.2.2.2.1 h.2.2.2.2.2.2.2.1 hP hD hS q he rfl 8 (by decide) (by rw [hy]; exact h.2.2.2.2.2.1 _ m_fl_X5_29) (fun _ h9 => h9) rfl (by rw [h.2.2.2.2.2.2.2.2.2.1]; exact hin) (by rw [hy]; rfl) (by decide +kernel) rfl rfl hlen hdg (fun H1 locs1 hP hD hS => ?_)
  rw [hw] at hP hD
  exact kk h H1 locs1 ls hP hD hS hl
theorem g_X5_32 (hy : y.cls = RX5) {a : Nat} {fs : List Value} {v : Value} (hdg : decode cc pc = .ok (.getfield 32, 3)) (q : Nat) (he : w[q]? = some (a, .inr (5, fs))) (hv : fs[10]? = some v) (kk : J D Γ y cc nL ret R Q k n w (pc + 3) lv (v :: st)) : J D Γ y cc nL ret R Q k n w pc lv (.ref a :: st) := by
  obtain ⟨p, e, s, m, args, below, meth, c, A⟩ := Γ
  intro h H locs ls hP hD hS hl
  exact va_get (C := RX5) (T := TX5) (N := 17) h.1 h.2.1 h.2.2.2.2.2.1 m_us_X5 h.2.2.2.2.1 h.2.2.2.2.2.2.2.1 hP q he rfl 10 (by decide) (by rw [hy]; exact h.2.2.2.2.2.1 _ m_fl_X5_32) (fun _ h9 => h9) hv hdg (kk h H locs ls hP hD hS hl)
theorem p_X5_32 (hy : y.cls = RX5) (hin : y.name = "<init>") {a : Nat} {fs : List Value} {x : Nat} {w2 : va_W} (hdg : decode cc pc = .ok (.putfield 32, 3)) (q : Nat) (he : w[q]? = some (a, .inr (5, fs))) (hlen : 10 < fs.length) (hw : w.set q (a, .inr (5, fs.set 10 (.ref x))) = w2) (kk : J D Γ y cc nL ret R Q k n w2 (pc + 3) lv st) : J D Γ y cc nL ret R Q k n w pc lv (.ref x :: .ref a :: st) := by
  obtain ⟨p, e, s, m, args, below, meth, c, A⟩ := Γ
  intro h H locs ls hP hD hS hl
  refine va_putF (C := RX5) (T := TX5) (N := 17) (ty := (.array .int)) h.1 h.2.1 h.2.2.2.2.2.1 m_us_X5 tyX5 tyX5_ok nmX5 h.2.2.2.2.1 h.2.2.2.2.2.2.2.1 hP hD hS q he rfl 10 (by decide) (by rw [hy]; exact h.2.2.2.2.2.1 _ m_fl_X5_32) (fun _ h9 => h9) rfl (by rw [h.2.2.2.2.2.2.2.2.2.1]; exact hin) (by rw [hy]; rfl) (by decide +kernel) rfl rfl hlen hdg (fun H1 locs1 hP hD hS => ?_)
  rw [hw] at hP hD
  exact kk h H1 locs1 ls hP hD hS hl
theorem g_X5_35 (hy : y.cls = RX5) {a : Nat} {fs : List Value} {v : Value} (hdg : decode cc pc = .ok (.getfield 35, 3)) (q : Nat) (he : w[q]? = some (a, .inr (5, fs))) (hv : fs[15]? = some v) (kk : J D Γ y cc nL ret R Q k n w (pc + 3) lv (v :: st)) : J D Γ y cc nL ret R Q k n w pc lv (.ref a :: st) := by
  obtain ⟨p, e, s, m, args, below, meth, c, A⟩ := Γ
  intro h H locs ls hP hD hS hl
  exact va_get (C := RX5) (T := TX5) (N := 17) h.1 h.2.1 h.2.2.2.2.2.1 m_us_X5 h.2.2.2.2.1 h.2.2.2.2.2.2.2.1 hP q he rfl 15 (by decide) (by rw [hy]; exact h.2.2.2.2.2.1 _ m_fl_X5_35) (fun _ h9 => h9) hv hdg (kk h H locs ls hP hD hS hl)
theorem p_X5_35 (hy : y.cls = RX5) (hin : y.name = "<init>") {a : Nat} {fs : List Value} {x : Nat} {w2 : va_W} (hdg : decode cc pc = .ok (.putfield 35, 3)) (q : Nat) (he : w[q]? = some (a, .inr (5, fs))) (hlen : 15 < fs.length) (hw : w.set q (a, .inr (5, fs.set 15 (.ref x))) = w2) (kk : J D Γ y cc nL ret R Q k n w2 (pc + 3) lv st) : J D Γ y cc nL ret R Q k n w pc lv (.ref x :: .ref a :: st) := by
  obtain ⟨p, e, s, m, args, below, meth, c, A⟩ := Γ
  intro h H locs ls hP hD hS hl
  refine va_putF (C := RX5) (T := TX5) (N := 17) (ty := (.array .int)) h.1 h.2.1 h.2.2.2.2.2.1 m_us_X5 tyX5 tyX5_ok nmX5 h.2.2.2.2.1 h.2.2.2.2.2.2.2.1 hP hD hS q he rfl 15 (by decide) (by rw [hy]; exact h.2.2.2.2.2.1 _ m_fl_X5_35) (fun _ h9 => h9) rfl (by rw [h.2.2.2.2.2.2.2.2.2.1]; exact hin) (by rw [hy]; rfl) (by decide +kernel) rfl rfl hlen hdg (fun H1 locs1 hP hD hS => ?_)
  rw [hw] at hP hD
  exact kk h H1 locs1 ls hP hD hS hl
theorem g_X5_42 (hy : y.cls = RX5) {a : Nat} {fs : List Value} {v : Value} (hdg : decode cc pc = .ok (.getfield 42, 3)) (q : Nat) (he : w[q]? = some (a, .inr (5, fs))) (hv : fs[9]? = some v) (kk : J D Γ y cc nL ret R Q k n w (pc + 3) lv (v :: st)) : J D Γ y cc nL ret R Q k n w pc lv (.ref a :: st) := by
  obtain ⟨p, e, s, m, args, below, meth, c, A⟩ := Γ
  intro h H locs ls hP hD hS hl
  exact va_get (C := RX5) (T := TX5) (N := 17) h.1 h.2.1 h.2.2.2.2.2.1 m_us_X5 h.2.2.2.2.1 h.2.2.2.2.2.2.2.1 hP q he rfl 9 (by decide) (by rw [hy]; exact h.2.2.2.2.2.1 _ m_fl_X5_42) (fun _ h9 => h9) hv hdg (kk h H locs ls hP hD hS hl)
theorem p_X5_42 (hy : y.cls = RX5) {a : Nat} {fs : List Value} {x : Int32} {w2 : va_W} (hdg : decode cc pc = .ok (.putfield 42, 3)) (q : Nat) (he : w[q]? = some (a, .inr (5, fs))) (hlen : 9 < fs.length) (hw : w.set q (a, .inr (5, fs.set 9 (.int x))) = w2) (kk : J D Γ y cc nL ret R Q k n w2 (pc + 3) lv st) : J D Γ y cc nL ret R Q k n w pc lv (.int x :: .ref a :: st) := by
  obtain ⟨p, e, s, m, args, below, meth, c, A⟩ := Γ
  intro h H locs ls hP hD hS hl
  refine va_put (C := RX5) (T := TX5) (N := 17) (ty := .int) h.1 h.2.1 h.2.2.2.2.2.1 m_us_X5 tyX5 tyX5_ok nmX5 h.2.2.2.2.1 h.2.2.2.2.2.2.2.1 hP hD hS q he rfl 9 (by decide) (by rw [hy]; exact h.2.2.2.2.2.1 _ m_fl_X5_42) (fun _ h9 => h9) rfl (by decide +kernel) rfl rfl hlen hdg (fun H1 locs1 hP hD hS => ?_)
  rw [hw] at hP hD
  exact kk h H1 locs1 ls hP hD hS hl
theorem g_X5_46 (hy : y.cls = RX5) {a : Nat} {fs : List Value} {v : Value} (hdg : decode cc pc = .ok (.getfield 46, 3)) (q : Nat) (he : w[q]? = some (a, .inr (5, fs))) (hv : fs[11]? = some v) (kk : J D Γ y cc nL ret R Q k n w (pc + 3) lv (v :: st)) : J D Γ y cc nL ret R Q k n w pc lv (.ref a :: st) := by
  obtain ⟨p, e, s, m, args, below, meth, c, A⟩ := Γ
  intro h H locs ls hP hD hS hl
  exact va_get (C := RX5) (T := TX5) (N := 17) h.1 h.2.1 h.2.2.2.2.2.1 m_us_X5 h.2.2.2.2.1 h.2.2.2.2.2.2.2.1 hP q he rfl 11 (by decide) (by rw [hy]; exact h.2.2.2.2.2.1 _ m_fl_X5_46) (fun _ h9 => h9) hv hdg (kk h H locs ls hP hD hS hl)
theorem p_X5_46 (hy : y.cls = RX5) {a : Nat} {fs : List Value} {x : Int32} {w2 : va_W} (hdg : decode cc pc = .ok (.putfield 46, 3)) (q : Nat) (he : w[q]? = some (a, .inr (5, fs))) (hlen : 11 < fs.length) (hw : w.set q (a, .inr (5, fs.set 11 (.int x))) = w2) (kk : J D Γ y cc nL ret R Q k n w2 (pc + 3) lv st) : J D Γ y cc nL ret R Q k n w pc lv (.int x :: .ref a :: st) := by
  obtain ⟨p, e, s, m, args, below, meth, c, A⟩ := Γ
  intro h H locs ls hP hD hS hl
  refine va_put (C := RX5) (T := TX5) (N := 17) (ty := .int) h.1 h.2.1 h.2.2.2.2.2.1 m_us_X5 tyX5 tyX5_ok nmX5 h.2.2.2.2.1 h.2.2.2.2.2.2.2.1 hP hD hS q he rfl 11 (by decide) (by rw [hy]; exact h.2.2.2.2.2.1 _ m_fl_X5_46) (fun _ h9 => h9) rfl (by decide +kernel) rfl rfl hlen hdg (fun H1 locs1 hP hD hS => ?_)
  rw [hw] at hP hD
  exact kk h H1 locs1 ls hP hD hS hl
theorem g_X5_53 (hy : y.cls = RX5) {a : Nat} {fs : List Value} {v : Value} (hdg : decode cc pc = .ok (.getfield 53, 3)) (q : Nat) (he : w[q]? = some (a, .inr (5, fs))) (hv : fs[13]? = some v) (kk : J D Γ y cc nL ret R Q k n w (pc + 3) lv (v :: st)) : J D Γ y cc nL ret R Q k n w pc lv (.ref a :: st) := by
  obtain ⟨p, e, s, m, args, below, meth, c, A⟩ := Γ
  intro h H locs ls hP hD hS hl
  exact va_get (C := RX5) (T := TX5) (N := 17) h.1 h.2.1 h.2.2.2.2.2.1 m_us_X5 h.2.2.2.2.1 h.2.2.2.2.2.2.2.1 hP q he rfl 13 (by decide) (by rw [hy]; exact h.2.2.2.2.2.1 _ m_fl_X5_53) (fun _ h9 => h9) hv hdg (kk h H locs ls hP hD hS hl)
theorem p_X5_53 (hy : y.cls = RX5) {a : Nat} {fs : List Value} {x : Int32} {w2 : va_W} (hdg : decode cc pc = .ok (.putfield 53, 3)) (q : Nat) (he : w[q]? = some (a, .inr (5, fs))) (hlen : 13 < fs.length) (hw : w.set q (a, .inr (5, fs.set 13 (.int x))) = w2) (kk : J D Γ y cc nL ret R Q k n w2 (pc + 3) lv st) : J D Γ y cc nL ret R Q k n w pc lv (.int x :: .ref a :: st) := by
  obtain ⟨p, e, s, m, args, below, meth, c, A⟩ := Γ
  intro h H locs ls hP hD hS hl
  refine va_put (C := RX5) (T := TX5) (N := 17) (ty := .int) h.1 h.2.1 h.2.2.2.2.2.1 m_us_X5 tyX5 tyX5_ok nmX5 h.2.2.2.2.1 h.2.2.2.2.2.2.2.1 hP hD hS q he rfl 13 (by decide) (by rw [hy]; exact h.2.2.2.2.2.1 _ m_fl_X5_53) (fun _ h9 => h9) rfl (by decide +kernel) rfl rfl hlen hdg (fun H1 locs1 hP hD hS => ?_)
  rw [hw] at hP hD
  exact kk h H1 locs1 ls hP hD hS hl
theorem g_X5_56 (hy : y.cls = RX5) {a : Nat} {fs : List Value} {v : Value} (hdg : decode cc pc = .ok (.getfield 56, 3)) (q : Nat) (he : w[q]? = some (a, .inr (5, fs))) (hv : fs[14]? = some v) (kk : J D Γ y cc nL ret R Q k n w (pc + 3) lv (v :: st)) : J D Γ y cc nL ret R Q k n w pc lv (.ref a :: st) := by
  obtain ⟨p, e, s, m, args, below, meth, c, A⟩ := Γ
  intro h H locs ls hP hD hS hl
  exact va_get (C := RX5) (T := TX5) (N := 17) h.1 h.2.1 h.2.2.2.2.2.1 m_us_X5 h.2.2.2.2.1 h.2.2.2.2.2.2.2.1 hP q he rfl 14 (by decide) (by rw [hy]; exact h.2.2.2.2.2.1 _ m_fl_X5_56) (fun _ h9 => h9) hv hdg (kk h H locs ls hP hD hS hl)
theorem p_X5_56 (hy : y.cls = RX5) {a : Nat} {fs : List Value} {x : Int32} {w2 : va_W} (hdg : decode cc pc = .ok (.putfield 56, 3)) (q : Nat) (he : w[q]? = some (a, .inr (5, fs))) (hlen : 14 < fs.length) (hw : w.set q (a, .inr (5, fs.set 14 (.int x))) = w2) (kk : J D Γ y cc nL ret R Q k n w2 (pc + 3) lv st) : J D Γ y cc nL ret R Q k n w pc lv (.int x :: .ref a :: st) := by
  obtain ⟨p, e, s, m, args, below, meth, c, A⟩ := Γ
  intro h H locs ls hP hD hS hl
  refine va_put (C := RX5) (T := TX5) (N := 17) (ty := .int) h.1 h.2.1 h.2.2.2.2.2.1 m_us_X5 tyX5 tyX5_ok nmX5 h.2.2.2.2.1 h.2.2.2.2.2.2.2.1 hP hD hS q he rfl 14 (by decide) (by rw [hy]; exact h.2.2.2.2.2.1 _ m_fl_X5_56) (fun _ h9 => h9) rfl (by decide +kernel) rfl rfl hlen hdg (fun H1 locs1 hP hD hS => ?_)
  rw [hw] at hP hD
  exact kk h H1 locs1 ls hP hD hS hl
theorem g_X5_59 (hy : y.cls = RX5) {a : Nat} {fs : List Value} {v : Value} (hdg : decode cc pc = .ok (.getfield 59, 3)) (q : Nat) (he : w[q]? = some (a, .inr (5, fs))) (hv : fs[12]? = some v) (kk : J D Γ y cc nL ret R Q k n w (pc + 3) lv (v :: st)) : J D Γ y cc nL ret R Q k n w pc lv (.ref a :: st) := by
  obtain ⟨p, e, s, m, args, below, meth, c, A⟩ := Γ
  intro h H locs ls hP hD hS hl
  exact va_get (C := RX5) (T := TX5) (N := 17) h.1 h.2.1 h.2.2.2.2.2.1 m_us_X5 h.2.2.2.2.1 h.2.2.2.2.2.2.2.1 hP q he rfl 12 (by decide) (by rw [hy]; exact h.2.2.2.2.2.1 _ m_fl_X5_59) (fun _ h9 => h9) hv hdg (kk h H locs ls hP hD hS hl)
theorem p_X5_59 (hy : y.cls = RX5) {a : Nat} {fs : List Value} {x : Int32} {w2 : va_W} (hdg : decode cc pc = .ok (.putfield 59, 3)) (q : Nat) (he : w[q]? = some (a, .inr (5, fs))) (hlen : 12 < fs.length) (hw : w.set q (a, .inr (5, fs.set 12 (.int x))) = w2) (kk : J D Γ y cc nL ret R Q k n w2 (pc + 3) lv st) : J D Γ y cc nL ret R Q k n w pc lv (.int x :: .ref a :: st) := by
  obtain ⟨p, e, s, m, args, below, meth, c, A⟩ := Γ
  intro h H locs ls hP hD hS hl
  refine va_put (C := RX5) (T := TX5) (N := 17) (ty := .int) h.1 h.2.1 h.2.2.2.2.2.1 m_us_X5 tyX5 tyX5_ok nmX5 h.2.2.2.2.1 h.2.2.2.2.2.2.2.1 hP hD hS q he rfl 12 (by decide) (by rw [hy]; exact h.2.2.2.2.2.1 _ m_fl_X5_59) (fun _ h9 => h9) rfl (by decide +kernel) rfl rfl hlen hdg (fun H1 locs1 hP hD hS => ?_)
  rw [hw] at hP hD
  exact kk h H1 locs1 ls hP hD hS hl
theorem g_X5_89 (hy : y.cls = RX5) {a : Nat} {fs : List Value} {v : Value} (hdg : decode cc pc = .ok (.getfield 89, 3)) (q : Nat) (he : w[q]? = some (a, .inr (5, fs))) (hv : fs[16]? = some v) (kk : J D Γ y cc nL ret R Q k n w (pc + 3) lv (v :: st)) : J D Γ y cc nL ret R Q k n w pc lv (.ref a :: st) := by
  obtain ⟨p, e, s, m, args, below, meth, c, A⟩ := Γ
  intro h H locs ls hP hD hS hl
  exact va_get (C := RX5) (T := TX5) (N := 17) h.1 h.2.1 h.2.2.2.2.2.1 m_us_X5 h.2.2.2.2.1 h.2.2.2.2.2.2.2.1 hP q he rfl 16 (by decide) (by rw [hy]; exact h.2.2.2.2.2.1 _ m_fl_X5_89) (fun _ h9 => h9) hv hdg (kk h H locs ls hP hD hS hl)
theorem p_X5_89 (hy : y.cls = RX5) {a : Nat} {fs : List Value} {x : Int32} {w2 : va_W} (hdg : decode cc pc = .ok (.putfield 89, 3)) (q : Nat) (he : w[q]? = some (a, .inr (5, fs))) (hlen : 16 < fs.length) (hw : w.set q (a, .inr (5, fs.set 16 (.int x))) = w2) (kk : J D Γ y cc nL ret R Q k n w2 (pc + 3) lv st) : J D Γ y cc nL ret R Q k n w pc lv (.int x :: .ref a :: st) := by
  obtain ⟨p, e, s, m, args, below, meth, c, A⟩ := Γ
  intro h H locs ls hP hD hS hl
  refine va_put (C := RX5) (T := TX5) (N := 17) (ty := .int) h.1 h.2.1 h.2.2.2.2.2.1 m_us_X5 tyX5 tyX5_ok nmX5 h.2.2.2.2.1 h.2.2.2.2.2.2.2.1 hP hD hS q he rfl 16 (by decide) (by rw [hy]; exact h.2.2.2.2.2.1 _ m_fl_X5_89) (fun _ h9 => h9) rfl (by decide +kernel) rfl rfl hlen hdg (fun H1 locs1 hP hD hS => ?_)
  rw [hw] at hP hD
  exact kk h H1 locs1 ls hP hD hS hl
theorem g_X5_98 (hy : y.cls = RX5) {a : Nat} {fs : List Value} {v : Value} (hdg : decode cc pc = .ok (.getfield 98, 3)) (q : Nat) (he : w[q]? = some (a, .inr (5, fs))) (hv : fs[1]? = some v) (kk : J D Γ y cc nL ret R Q k n w (pc + 3) lv (v :: st)) : J D Γ y cc nL ret R Q k n w pc lv (.ref a :: st) := by
  obtain ⟨p, e, s, m, args, below, meth, c, A⟩ := Γ
  intro h H locs ls hP hD hS hl
  exact va_get (C := RX5) (T := TX5) (N := 17) h.1 h.2.1 h.2.2.2.2.2.1 m_us_X5 h.2.2.2.2.1 h.2.2.2.2.2.2.2.1 hP q he rfl 1 (by decide) (by rw [hy]; exact h.2.2.2.2.2.1 _ m_fl_X5_98) (fun _ h9 => h9) hv hdg (kk h H locs ls hP hD hS hl)
theorem p_X5_98 (hy : y.cls = RX5) {a : Nat} {fs : List Value} {x : Int32} {w2 : va_W} (hdg : decode cc pc = .ok (.putfield 98, 3)) (q : Nat) (he : w[q]? = some (a, .inr (5, fs))) (hlen : 1 < fs.length) (hw : w.set q (a, .inr (5, fs.set 1 (.int x))) = w2) (kk : J D Γ y cc nL ret R Q k n w2 (pc + 3) lv st) : J D Γ y cc nL ret R Q k n w pc lv (.int x :: .ref a :: st) := by
  obtain ⟨p, e, s, m, args, below, meth, c, A⟩ := Γ
  intro h H locs ls hP hD hS hl
  refine va_put (C := RX5) (T := TX5) (N := 17) (ty := .int) h.1 h.2.1 h.2.2.2.2.2.1 m_us_X5 tyX5 tyX5_ok nmX5 h.2.2.2.2.1 h.2.2.2.2.2.2.2.1 hP hD hS q he rfl 1 (by decide) (by rw [hy]; exact h.2.2.2.2.2.1 _ m_fl_X5_98) (fun _ h9 => h9) rfl (by decide +kernel) rfl rfl hlen hdg (fun H1 locs1 hP hD hS => ?_)
  rw [hw] at hP hD
  exact kk h H1 locs1 ls hP hD hS hl
theorem g_X5_161 (hy : y.cls = RX5) {a : Nat} {fs : List Value} {v : Value} (hdg : decode cc pc = .ok (.getfield 161, 3)) (q : Nat) (he : w[q]? = some (a, .inr (5, fs))) (hv : fs[6]? = some v) (kk : J D Γ y cc nL ret R Q k n w (pc + 3) lv (v :: st)) : J D Γ y cc nL ret R Q k n w pc lv (.ref a :: st) := by
  obtain ⟨p, e, s, m, args, below, meth, c, A⟩ := Γ
  intro h H locs ls hP hD hS hl
  exact va_get (C := RX5) (T := TX5) (N := 17) h.1 h.2.1 h.2.2.2.2.2.1 m_us_X5 h.2.2.2.2.1 h.2.2.2.2.2.2.2.1 hP q he rfl 6 (by decide) (by rw [hy]; exact h.2.2.2.2.2.1 _ m_fl_X5_161) (fun _ h9 => h9) hv hdg (kk h H locs ls hP hD hS hl)
theorem p_X5_161 (hy : y.cls = RX5) {a : Nat} {fs : List Value} {x : Int32} {w2 : va_W} (hdg : decode cc pc = .ok (.putfield 161, 3)) (q : Nat) (he : w[q]? = some (a, .inr (5, fs))) (hlen : 6 < fs.length) (hw : w.set q (a, .inr (5, fs.set 6 (.int x))) = w2) (kk : J D Γ y cc nL ret R Q k n w2 (pc + 3) lv st) : J D Γ y cc nL ret R Q k n w pc lv (.int x :: .ref a :: st) := by
  obtain ⟨p, e, s, m, args, below, meth, c, A⟩ := Γ
  intro h H locs ls hP hD hS hl
  refine va_put (C := RX5) (T := TX5) (N := 17) (ty := .int) h.1 h.2.1 h.2.2.2.2.2.1 m_us_X5 tyX5 tyX5_ok nmX5 h.2.2.2.2.1 h.2.2.2.2.2.2.2.1 hP hD hS q he rfl 6 (by decide) (by rw [hy]; exact h.2.2.2.2.2.1 _ m_fl_X5_161) (fun _ h9 => h9) rfl (by decide +kernel) rfl rfl hlen hdg (fun H1 locs1 hP hD hS => ?_)
  rw [hw] at hP hD
  exact kk h H1 locs1 ls hP hD hS hl
end RU3
end
section
theorem zOk.moved {D : DX} {A : Nat → Prop} {u U : State} {H : Heap} (hvm : u.vm.Alike U.vm) (h : zOk D A u H) : zOk D A U H := fun q hq => ⟨(h q hq).1.moved hvm, (h q hq).2.moved hvm⟩
theorem zOk.kept {D : DX} {A : Nat → Prop} {U : State} {H H1 : Heap} (h : zOk D A U H) (hk : ∀ a : Nat, a < H.size → ¬ A a → H1[a]? = H[a]?) : zOk D A U H1 := fun q hq => ⟨(h q hq).1.kept hk, (h q hq).2.kept hk⟩
theorem zOk.narrow {D : DX} {A B : Nat → Prop} {U : State} {H : Heap} (h : zOk D A U H) (hAB : ∀ q, B q → A q) : zOk D B U H := fun q hq => ⟨(h q hq).1.narrow hAB, (h q hq).2.narrow hAB⟩
theorem xOk.warm {s U : State} (hW : s.WarmedH U.vm) (h : xOk s) : xOk U := ⟨va_Nw.warmM hW h.1, va_AO.moved hW.alike h.2⟩
theorem cP_blind (D : DX) (av : List Value) (w : va_W) (sz : Nat) : FrameBlind (cP D av w sz) := by
  intro a U g mk q
  obtain ⟨q0, q1, qP, qK, qD, qZ, qX⟩ := q
  have al : U.vm.Alike (U.calling g mk a).vm := Vm.Alike.refl U.vm
  exact ⟨q0, q1, qP, va_K.moved (u := U) (U := U.calling g mk a) al qK, qD, zOk.moved (u := U) (U := U.calling g mk a) al qZ, va_Nw.same (u := U) (U := U.calling g mk a) rfl rfl qX.1, va_AO.moved (u := U) (U := U.calling g mk a) al qX.2⟩
/-- the words that a call needs -/
def CwB (own : String) (idx : Nat) (y : MethodName) (b : ByteArray) (n : Nat) (r : Option FieldType) (np : Nat) : Prop :=
  Cond.methodLink own idx y ∈ lw_g ∧ Cond.initialized y.cls ∈ lw_g ∧ Cond.code y b n r ∈ lw_g ∧ (y.cls ≠ "java/lang/invoke/MethodHandle" ∧ y.cls ≠ "java/lang/invoke/VarHandle" ∧ (parseMethodDescriptor y.desc).map (fun d => d.parameters.length) = some np)
def CwV (own : String) (idx : Nat) (y : MethodName) (b : ByteArray) (n : Nat) (r : Option FieldType) (np : Nat) : Prop := CwB own idx y b n r np ∧ Cond.instanceMethod y ∈ lw_g ∧ Cond.selects y.cls y y ∈ lw_g
def CwS (own : String) (idx : Nat) (y : MethodName) (b : ByteArray) (n : Nat) (r : Option FieldType) (np : Nat) : Prop := CwB own idx y b n r np ∧ Cond.static y ∈ lw_g
section CA1
variable {p : Program} {e : Env} {R : Room} {s : State} {m : MethodId} {args : Array Value} {below : List Frame} {meth : Method} {c : Code} {H : Heap} {locs : List Loc} {Q : State → Prop} {A : Nat → Prop} {D : DX}
theorem wsub {ws wc : va_W} {is : List Nat} (hP : va_P (dG D) classes ws H) (hC : is.map (fun i => ws[i]?) = wc.map some) : va_P (dG D) classes wc H := by
  intro k q hk
  obtain ⟨i, -, hi⟩ := wat hC k q hk
  exact hP i q hi
/-- what a callee may take as given -/
theorem pre_of {av : List Value} {ws wc : va_W} {is : List Nat} {y : MethodName} {cc : ByteArray} {nL : Nat} {ret : Option FieldType} (h : Ok D (p, e, s, m, args, below, meth, c, A) y cc nL ret) (hP : va_P (dG D) classes ws H) (hD : va_D A ws) (hS : va_S A s.heap H locs) (hC : is.map (fun i => ws[i]?) = wc.map some) (hn : va_nd is = true) (U : State) (hU : U.heap = H) (hW : s.WarmedH U.vm) : cP D av wc H.size av.toArray U := by
  obtain ⟨h1, h2, h3, h4, h5, h6, h7, h8, h9, h10, h11, h12⟩ := h
  refine ⟨rfl, by rw [hU], by rw [hU]; exact wsub hP hC, va_K.moved hW.alike h8, (hD.sub is hn hC).weaken (fun _ _ _ _ => trivial), ?_, h12.warm hW⟩
  rw [hU]
  exact ((h11.kept hS.2.1).narrow (va_free hD hS h9 is hC)).moved hW.alike
/-- behind a call that makes no cell: the callee's cells as they are now, all others as they were -/
theorem run_in {k n mc ms pc : Nat} {ls : Array Slot} {st0 rest : List Value} {a : Array Value} {ws wc : va_W} {is : List Nat} {finC : Option Value → va_W → Prop} (h9 : ∀ q, s.heap.size ≤ q → A q) (hP : va_P (dG D) classes ws H) (hD : va_D A ws) (hS : va_S A s.heap H locs) (hC : is.map (fun i => ws[i]?) = wc.map some) (hn : va_nd is = true)
    (hr : va_Run p (dl D) e R s m args below meth c H locs k n mc ms (F0 m pc ls st0) rest (cQ D finC (va_A wc H.size) a) (va_A wc H.size))
    (kk : ∀ (v : Option Value) (w1 : va_W), finC v w1 → w1.map Prod.fst = wc.map Prod.fst ∧ ∀ (H1 : Heap) (locs1 : List Loc), va_P (dG D) classes (updw ws is w1) H1 → va_D A (updw ws is w1) → va_S A s.heap H1 locs1 → W p (dl D) e R s m args below meth c H1 locs1 (k + mc) (n + ms) Q (F0 m (pc + 3) ls (v.toList ++ rest))) : W p (dl D) e R s m args below meth c H locs k n Q (F0 m pc ls st0) := by
  intro T hT X
  obtain ⟨v, st₀, t, T', L, h0, X', hL, e1, e2, ⟨⟨v', w1, hv, hfin, hP1, hD1⟩, hz, hk⟩, stp⟩ := hr T hT X
  cases hv
  rw [h0] at hz hk
  obtain ⟨ha, kk⟩ := kk v w1 hfin
  have hF := va_free hD hS h9 is hC
  have hlen : is.length = w1.length := by
    have g1 := congrArg List.length hC
    have g2 := congrArg List.length ha
    simp only [List.length_map] at g1 g2
    omega
  have hS' : va_S A s.heap T'.heap (locs ++ L) := ⟨Nat.le_trans hS.1 (by rw [e1]; exact hz), fun q h1 h2 => by rw [e1, hk q (Nat.lt_of_lt_of_le h1 hS.1) (fun z => h2 (hF q z))]; exact hS.2.1 q h1 h2, fun q hq => by
      rcases List.mem_append.mp hq with h | h
      · exact hS.2.2 q h
      · exact hF _ (hL q h)⟩
  have hP' : va_P (dG D) classes (updw ws is w1) T'.heap := by
    intro j q hq
    rw [e1]
    rcases updw_at is ws w1 j q hq hlen with ⟨i, h1, h2⟩ | ⟨h1, h2⟩
    · exact hP1 i q h2
    · refine (hP j q h2).kept (hk q.1 (hP j q h2).lt (fun hz => ?_))
      rcases hz with ⟨k2, e', h⟩ | h
      · obtain ⟨i, h3, h4⟩ := wat hC k2 (q.1, e') h
        have hij := hD.1 j i q (q.1, e') h2 h4 rfl
        subst hij
        exact h1 (List.mem_of_getElem? h3)
      · exact absurd (hP j q h2).lt (Nat.not_lt.mpr h)
  have hA' : (updw ws is w1).map Prod.fst = ws.map Prod.fst := by
    refine updw_addr is ws wc w1 ?_ ha
    have g := congrArg (List.map (Option.map Prod.fst)) hC
    simp only [List.map_map] at g
    rw [List.map_map]
    refine Eq.trans (List.map_congr_left (fun i _ => ?_)) (g.trans (List.map_congr_left (fun i _ => rfl)))
    simp [List.getElem?_map]
  obtain ⟨t2, a1, b1⟩ := kk T'.heap (locs ++ L) hP' (va_D_addr hD hA') hS' T' rfl X'
  exact ⟨t2, stp t2 a1, b1⟩
end CA1
section CA2
variable {D : DX} {Γ : GX} {y : MethodName} {cc : ByteArray} {nL : Nat} {ret : Option FieldType} {R : Room} {Q : State → Prop} {k n : Nat} {w : va_W} {pc : Nat} {lv : List (Nat × Value)} {st : List Value}
variable {y' : MethodName} {b' : ByteArray} {n' np idx : Nat} {r' : Option FieldType} {rm : Room} {a : Nat} {As rest : List Value} {wc : va_W} {finC : Option Value → va_W → Prop} {own : String}
theorem j_callV (hM : Ct D y' b' n' r' rm (.ref a :: As) wc finC) (hy : y.cls = own) (cw : CwV own idx y' b' n' r' np) (hnp : As.length = np) (hR : rm.frames + 1 ≤ R.frames ∧ 8 + (n' + 11) + rm.locals ≤ R.locals) (h0 : rm.cells = 0 ∧ rm.slots = 0) (hkn : k ≤ R.cells ∧ n ≤ R.slots) (hdg : decode cc pc = .ok (.invokevirtual idx, 3)) (hst : st = As.reverse ++ .ref a :: rest) (hcat : (rest.map fun v => v.category).sum ≤ 8)
    (is : List Nat) (hC : is.map (fun i => w[i]?) = wc.map some) (hn : va_nd is = true) (ci q0 : Nat) {fs : List Value} {rc : vw_C} (he : wc[q0]? = some (a, .inr (ci, fs))) (hcl : classes[ci]? = some rc) (hrc : rc.1 = y'.cls)
    (kk : ∀ (v : Option Value) (w1 : va_W), finC v w1 → w1.map Prod.fst = wc.map Prod.fst ∧ J D Γ y cc nL ret R Q k n (updw w is w1) (pc + 3) lv (v.toList ++ rest)) : J D Γ y cc nL ret R Q k n w pc lv st := by
  subst hst
  subst hy
  obtain ⟨p, e, s, m, args, below, meth, c, A⟩ := Γ
  intro h H locs ls hP hD hS hl
  obtain ⟨⟨c1, c2, c3, c4⟩, c5, c6⟩ := cw
  have ht := h.2.2.2.2.2.1
  have hB : CallB R s args y.cls idx y' b' n' r' (.code y' b' n' r' :: lw_g) rm rm.cells rm.slots np := callB_of np ht (gd_c c3) rfl rfl rfl (ht _ c2) (ht _ c1) c4 hR
  refine run_in h.2.2.2.2.2.2.2.2.1 hP hD hS hC hn (va_runV (As := As) (rest := rest) ⟨h.1, h.2.1, h.2.2.2.1, h.2.2.2.2.1, ht⟩ (hM H.size) ⟨hB, ht _ c5, ht _ c6⟩ ⟨cP_blind _ _ _ _, ?_, fun U hU hW => pre_of h hP hD hS hC hn U hU hW⟩ rfl hnp hl.1 rfl (lv_room hcat) hdg ⟨by rw [h0.1]; exact hkn.1, by rw [h0.2]; exact hkn.2⟩) (fun v w1 hf => ?_)
  · rw [← hrc]
    exact va_recv h.2.2.2.2.2.2.2.1 (wsub hP hC) hcl he
  · obtain ⟨g1, g2⟩ := kk v w1 hf
    refine ⟨g1, fun H1 locs1 hP1 hD1 hS1 => ?_⟩
    rw [h0.1, h0.2]
    exact g2 h H1 locs1 ls hP1 hD1 hS1 hl
theorem j_callS (hM : Ct D y' b' n' r' rm As wc finC) (hy : y.cls = own) (cw : CwS own idx y' b' n' r' np) (hnp : As.length = np) (hR : rm.frames + 1 ≤ R.frames ∧ 8 + (n' + 11) + rm.locals ≤ R.locals) (h0 : rm.cells = 0 ∧ rm.slots = 0) (hkn : k ≤ R.cells ∧ n ≤ R.slots) (hdg : decode cc pc = .ok (.invokestatic idx, 3)) (hst : st = As.reverse ++ rest) (hcat : (rest.map fun v => v.category).sum ≤ 8)
    (is : List Nat) (hC : is.map (fun i => w[i]?) = wc.map some) (hn : va_nd is = true)
    (kk : ∀ (v : Option Value) (w1 : va_W), finC v w1 → w1.map Prod.fst = wc.map Prod.fst ∧ J D Γ y cc nL ret R Q k n (updw w is w1) (pc + 3) lv (v.toList ++ rest)) : J D Γ y cc nL ret R Q k n w pc lv st := by
  subst hst
  subst hy
  obtain ⟨p, e, s, m, args, below, meth, c, A⟩ := Γ
  intro h H locs ls hP hD hS hl
  obtain ⟨⟨c1, c2, c3, c4⟩, c5⟩ := cw
  have ht := h.2.2.2.2.2.1
  have hB : CallB R s args y.cls idx y' b' n' r' (.code y' b' n' r' :: lw_g) rm rm.cells rm.slots np := callB_of np ht (gd_c c3) rfl rfl rfl (ht _ c2) (ht _ c1) c4 hR
  refine run_in h.2.2.2.2.2.2.2.2.1 hP hD hS hC hn (va_runS (As := As) (rest := rest) ⟨h.1, h.2.1, h.2.2.2.1, h.2.2.2.2.1, ht⟩ (hM H.size) ⟨hB, ht _ c5⟩ ⟨cP_blind _ _ _ _, fun U hU hW => pre_of h hP hD hS hC hn U hU hW⟩ rfl hnp hl.1 rfl (lv_room hcat) hdg ⟨by rw [h0.1]; exact hkn.1, by rw [h0.2]; exact hkn.2⟩) (fun v w1 hf => ?_)
  obtain ⟨g1, g2⟩ := kk v w1 hf
  refine ⟨g1, fun H1 locs1 hP1 hD1 hS1 => ?_⟩
  rw [h0.1, h0.2]
  exact g2 h H1 locs1 ls hP1 hD1 hS1 hl
/-- the one call of a private method of a nest mate -/
theorem j_callN {rm : Room} (hM : Ct D yX4_within cX4_within 3 (some .boolean) rm As wc finC) (hy : y.cls = RX3) (hnp : As.length = 3) (hR : rm.frames + 1 ≤ R.frames ∧ 8 + (3 + 11) + rm.locals ≤ R.locals) (h0 : rm.cells = 0 ∧ rm.slots = 0) (hkn : k ≤ R.cells ∧ n ≤ R.slots) (hdg : decode cc pc = .ok (.invokestatic 66, 3)) (hst : st = As.reverse ++ rest) (hcat : (rest.map fun v => v.category).sum ≤ 8)
    (is : List Nat) (hC : is.map (fun i => w[i]?) = wc.map some) (hn : va_nd is = true)
    (kk : ∀ (v : Option Value) (w1 : va_W), finC v w1 → w1.map Prod.fst = wc.map Prod.fst ∧ J D Γ y cc nL ret R Q k n (updw w is w1) (pc + 3) lv (v.toList ++ rest)) : J D Γ y cc nL ret R Q k n w pc lv st := by
  subst hst
  obtain ⟨p, e, s, m, args, below, meth, c, A⟩ := Γ
  intro h H locs ls hP hD hS hl
  have ht := h.2.2.2.2.2.1
  have hB : va_CN R s args RX3 66 yX4_within RX4 cX4_within 3 (some .boolean) (.code yX4_within cX4_within 3 (some .boolean) :: lw_g) rm rm.cells rm.slots 3 := va_cnB 3 ht (gd_c m_co_X4_within) rfl rfl rfl h.2.2.2.2.2.2.2.2.2.2.2.1 (ht _ m_in_X4) (by decide +kernel) hR
  have h5 := h.2.2.2.2.1
  rw [hy] at h5
  refine run_in h.2.2.2.2.2.2.2.2.1 hP hD hS hC hn (va_runSN (As := As) (rest := rest) ⟨h.1, h.2.1, h.2.2.2.1, h5, ht⟩ (hM H.size) ⟨hB, ht _ m_st_X4_within, trivial⟩ ⟨cP_blind _ _ _ _, fun U hU hW => pre_of h hP hD hS hC hn U hU hW⟩ rfl hnp hl.1 rfl (lv_room hcat) hdg ⟨by rw [h0.1]; exact hkn.1, by rw [h0.2]; exact hkn.2⟩) (fun v w1 hf => ?_)
  obtain ⟨g1, g2⟩ := kk v w1 hf
  refine ⟨g1, fun H1 locs1 hP1 hD1 hS1 => ?_⟩
  rw [h0.1, h0.2]
  exact g2 h H1 locs1 ls hP1 hD1 hS1 hl
end CA2
/-- a contract that tells just what is answered and what the world is then -/
abbrev Cd (D : DX) (y : MethodName) (b : ByteArray) (n : Nat) (r : Option FieldType) (rm : Room) (av : List Value) (w : va_W) (rv : Option Value) (w' : va_W) : Prop := Ct D y b n r rm av w (fun v u => v = rv ∧ u = w')
section CA3
variable {D : DX} {Γ : GX} {y : MethodName} {cc : ByteArray} {nL : Nat} {ret : Option FieldType} {R : Room} {Q : State → Prop} {k n : Nat} {w : va_W} {pc : Nat} {lv : List (Nat × Value)} {st : List Value}
variable {y' : MethodName} {b' : ByteArray} {n' np idx : Nat} {r' : Option FieldType} {rm : Room} {a : Nat} {As : List Value} {wc w1 w2 : va_W} {rv : Option Value} {own : String} {st2 : List Value}
theorem j_V (hM : Cd D y' b' n' r' rm (.ref a :: As) wc rv w1) (hy : y.cls = own) (cw : CwV own idx y' b' n' r' np) (hdg : decode cc pc = .ok (.invokevirtual idx, 3)) (rest : List Value) (hst : st = As.reverse ++ .ref a :: rest) (is : List Nat) (hC : is.map (fun i => w[i]?) = wc.map some) (hw : updw w is w1 = w2) (hst2 : rv.toList ++ rest = st2) (ci : Nat)
    (kk : J D Γ y cc nL ret R Q k n w2 (pc + 3) lv st2) (hsd : As.length = np ∧ (rm.frames + 1 ≤ R.frames ∧ 8 + (n' + 11) + rm.locals ≤ R.locals) ∧ (rm.cells = 0 ∧ rm.slots = 0) ∧ (k ≤ R.cells ∧ n ≤ R.slots) ∧ (rest.map fun v => v.category).sum ≤ 8 ∧ va_nd is = true ∧ w1.map Prod.fst = wc.map Prod.fst) {fs : List Value} (he : wc[0]? = some (a, .inr (ci, fs))) {rc : vw_C} (hcl : classes[ci]? = some rc) (hrc : rc.1 = y'.cls) : J D Γ y cc nL ret R Q k n w pc lv st := by
  obtain ⟨s1, s2, s3, s4, s5, s6, s7⟩ := hsd
  refine j_callV hM hy cw s1 s2 s3 s4 hdg hst s5 is hC s6 ci 0 he hcl hrc (fun v u hf => ?_)
  obtain ⟨rfl, rfl⟩ := hf
  exact ⟨s7, by rw [hw, hst2]; exact kk⟩
theorem j_S (hM : Cd D y' b' n' r' rm As wc rv w1) (hy : y.cls = own) (cw : CwS own idx y' b' n' r' np) (hdg : decode cc pc = .ok (.invokestatic idx, 3)) (rest : List Value) (hst : st = As.reverse ++ rest) (is : List Nat) (hC : is.map (fun i => w[i]?) = wc.map some) (hw : updw w is w1 = w2) (hst2 : rv.toList ++ rest = st2)
    (kk : J D Γ y cc nL ret R Q k n w2 (pc + 3) lv st2) (hsd : As.length = np ∧ (rm.frames + 1 ≤ R.frames ∧ 8 + (n' + 11) + rm.locals ≤ R.locals) ∧ (rm.cells = 0 ∧ rm.slots = 0) ∧ (k ≤ R.cells ∧ n ≤ R.slots) ∧ (rest.map fun v => v.category).sum ≤ 8 ∧ va_nd is = true ∧ w1.map Prod.fst = wc.map Prod.fst) : J D Γ y cc nL ret R Q k n w pc lv st := by
  obtain ⟨s1, s2, s3, s4, s5, s6, s7⟩ := hsd
  refine j_callS hM hy cw s1 s2 s3 s4 hdg hst s5 is hC s6 (fun v u hf => ?_)
  obtain ⟨rfl, rfl⟩ := hf
  exact ⟨s7, by rw [hw, hst2]; exact kk⟩
theorem j_N (hM : Cd D yX4_within cX4_within 3 (some .boolean) rm As wc rv w1) (hy : y.cls = RX3) (hdg : decode cc pc = .ok (.invokestatic 66, 3)) (rest : List Value) (hst : st = As.reverse ++ rest) (is : List Nat) (hC : is.map (fun i => w[i]?) = wc.map some) (hw : updw w is w1 = w2) (hst2 : rv.toList ++ rest = st2)
    (kk : J D Γ y cc nL ret R Q k n w2 (pc + 3) lv st2) (hsd : As.length = 3 ∧ (rm.frames + 1 ≤ R.frames ∧ 8 + (3 + 11) + rm.locals ≤ R.locals) ∧ (rm.cells = 0 ∧ rm.slots = 0) ∧ (k ≤ R.cells ∧ n ≤ R.slots) ∧ (rest.map fun v => v.category).sum ≤ 8 ∧ va_nd is = true ∧ w1.map Prod.fst = wc.map Prod.fst) : J D Γ y cc nL ret R Q k n w pc lv st := by
  obtain ⟨s1, s2, s3, s4, s5, s6, s7⟩ := hsd
  refine j_callN hM hy s1 s2 s3 s4 hdg hst s5 is hC s6 (fun v u hf => ?_)
  obtain ⟨rfl, rfl⟩ := hf
  exact ⟨s7, by rw [hw, hst2]; exact kk⟩
end CA3

theorem cw_L_13 : CwV RL 13 yX4_type cX4_type 2 (some .int) 1 := ⟨⟨m_ml_L_13, m_in_X4, m_co_X4_type, by decide +kernel⟩, m_im_X4_type, m_se_X4_type⟩
theorem cw_L_17 : CwV RL 17 yX5_type cX5_type 2 (some .int) 1 := ⟨⟨m_ml_L_17, m_in_X5, m_co_X5_type, by decide +kernel⟩, m_im_X5_type, m_se_X5_type⟩
theorem cw_L_18 : CwV RL 18 yX4_clear cX4_clear 2 (some .int) 0 := ⟨⟨m_ml_L_18, m_in_X4, m_co_X4_clear, by decide +kernel⟩, m_im_X4_clear, m_se_X4_clear⟩
theorem cw_L_22 : CwV RL 22 yX5_clear cX5_clear 2 (some .int) 0 := ⟨⟨m_ml_L_22, m_in_X5, m_co_X5_clear, by decide +kernel⟩, m_im_X5_clear, m_se_X5_clear⟩
theorem cw_L_23 : CwV RL 23 yX4_posts cX4_posts 3 (some .int) 0 := ⟨⟨m_ml_L_23, m_in_X4, m_co_X4_posts, by decide +kernel⟩, m_im_X4_posts, m_se_X4_posts⟩
theorem cw_L_26 : CwV RL 26 yX5_posts cX5_posts 1 (some .int) 0 := ⟨⟨m_ml_L_26, m_in_X5, m_co_X5_posts, by decide +kernel⟩, m_im_X5_posts, m_se_X5_posts⟩
theorem cw_L_27 : CwV RL 27 yX4_ticks cX4_ticks 4 (some .int) 1 := ⟨⟨m_ml_L_27, m_in_X4, m_co_X4_ticks, by decide +kernel⟩, m_im_X4_ticks, m_se_X4_ticks⟩
theorem cw_L_30 : CwV RL 30 yX5_ticks cX5_ticks 4 (some .int) 1 := ⟨⟨m_ml_L_30, m_in_X5, m_co_X5_ticks, by decide +kernel⟩, m_im_X5_ticks, m_se_X5_ticks⟩
theorem cw_L_31 : CwV RL 31 yX4_cancels cX4_cancels 2 (some .int) 1 := ⟨⟨m_ml_L_31, m_in_X4, m_co_X4_cancels, by decide +kernel⟩, m_im_X4_cancels, m_se_X4_cancels⟩
theorem cw_L_34 : CwV RL 34 yX5_cancels cX5_cancels 6 (some .int) 1 := ⟨⟨m_ml_L_34, m_in_X5, m_co_X5_cancels, by decide +kernel⟩, m_im_X5_cancels, m_se_X5_cancels⟩
theorem cw_L_35 : CwV RL 35 yX4_switches cX4_switches 3 (some .int) 1 := ⟨⟨m_ml_L_35, m_in_X4, m_co_X4_switches, by decide +kernel⟩, m_im_X4_switches, m_se_X4_switches⟩
theorem cw_L_38 : CwV RL 38 yX5_switches cX5_switches 3 (some .int) 1 := ⟨⟨m_ml_L_38, m_in_X5, m_co_X5_switches, by decide +kernel⟩, m_im_X5_switches, m_se_X5_switches⟩
theorem cw_L_39 : CwV RL 39 yX4_tunes cX4_tunes 4 (some .int) 3 := ⟨⟨m_ml_L_39, m_in_X4, m_co_X4_tunes, by decide +kernel⟩, m_im_X4_tunes, m_se_X4_tunes⟩
theorem cw_L_43 : CwV RL 43 yX5_tunes cX5_tunes 5 (some .int) 3 := ⟨⟨m_ml_L_43, m_in_X5, m_co_X5_tunes, by decide +kernel⟩, m_im_X5_tunes, m_se_X5_tunes⟩
theorem cw_L_44 : CwV RL 44 yX4_undo cX4_undo 1 (some .int) 0 := ⟨⟨m_ml_L_44, m_in_X4, m_co_X4_undo, by decide +kernel⟩, m_im_X4_undo, m_se_X4_undo⟩
theorem cw_L_47 : CwV RL 47 yX5_undo cX5_undo 2 (some .int) 0 := ⟨⟨m_ml_L_47, m_in_X5, m_co_X5_undo, by decide +kernel⟩, m_im_X5_undo, m_se_X5_undo⟩
theorem cw_L_48 : CwV RL 48 yX4_at cX4_at 2 (some .int) 1 := ⟨⟨m_ml_L_48, m_in_X4, m_co_X4_at, by decide +kernel⟩, m_im_X4_at, m_se_X4_at⟩
theorem cw_L_51 : CwV RL 51 yX5_at cX5_at 2 (some .int) 1 := ⟨⟨m_ml_L_51, m_in_X5, m_co_X5_at, by decide +kernel⟩, m_im_X5_at, m_se_X5_at⟩
theorem cw_L_52 : CwV RL 52 yX4_channel cX4_channel 3 (some .int) 2 := ⟨⟨m_ml_L_52, m_in_X4, m_co_X4_channel, by decide +kernel⟩, m_im_X4_channel, m_se_X4_channel⟩
theorem cw_L_56 : CwV RL 56 yX5_channel cX5_channel 4 (some .int) 2 := ⟨⟨m_ml_L_56, m_in_X5, m_co_X5_channel, by decide +kernel⟩, m_im_X5_channel, m_se_X5_channel⟩
theorem cw_L_57 : CwV RL 57 yX4_slot cX4_slot 5 (some .int) 3 := ⟨⟨m_ml_L_57, m_in_X4, m_co_X4_slot, by decide +kernel⟩, m_im_X4_slot, m_se_X4_slot⟩
theorem cw_L_60 : CwV RL 60 yX5_slot cX5_slot 5 (some .int) 3 := ⟨⟨m_ml_L_60, m_in_X5, m_co_X5_slot, by decide +kernel⟩, m_im_X5_slot, m_se_X5_slot⟩
theorem cw_L_61 : CwV RL 61 yX4_unit cX4_unit 6 (some .int) 4 := ⟨⟨m_ml_L_61, m_in_X4, m_co_X4_unit, by decide +kernel⟩, m_im_X4_unit, m_se_X4_unit⟩
theorem cw_L_65 : CwV RL 65 yX5_unit cX5_unit 6 (some .int) 4 := ⟨⟨m_ml_L_65, m_in_X5, m_co_X5_unit, by decide +kernel⟩, m_im_X5_unit, m_se_X5_unit⟩
theorem cw_L_66 : CwV RL 66 yX4_waiting cX4_waiting 3 (some .int) 1 := ⟨⟨m_ml_L_66, m_in_X4, m_co_X4_waiting, by decide +kernel⟩, m_im_X4_waiting, m_se_X4_waiting⟩
theorem cw_L_69 : CwV RL 69 yX5_waiting cX5_waiting 2 (some .int) 1 := ⟨⟨m_ml_L_69, m_in_X5, m_co_X5_waiting, by decide +kernel⟩, m_im_X5_waiting, m_se_X5_waiting⟩
theorem cw_L_70 : CwV RL 70 yX4_both cX4_both 7 (some .int) 4 := ⟨⟨m_ml_L_70, m_in_X4, m_co_X4_both, by decide +kernel⟩, m_im_X4_both, m_se_X4_both⟩
theorem cw_L_73 : CwV RL 73 yX5_both cX5_both 11 (some .int) 4 := ⟨⟨m_ml_L_73, m_in_X5, m_co_X5_both, by decide +kernel⟩, m_im_X5_both, m_se_X5_both⟩
theorem cw_L_74 : CwV RL 74 yX4_over cX4_over 2 (some .int) 1 := ⟨⟨m_ml_L_74, m_in_X4, m_co_X4_over, by decide +kernel⟩, m_im_X4_over, m_se_X4_over⟩
theorem cw_L_77 : CwV RL 77 yX5_over cX5_over 3 (some .int) 1 := ⟨⟨m_ml_L_77, m_in_X5, m_co_X5_over, by decide +kernel⟩, m_im_X5_over, m_se_X5_over⟩
theorem cw_L_78 : CwV RL 78 yX4_lands cX4_lands 2 (some .int) 1 := ⟨⟨m_ml_L_78, m_in_X4, m_co_X4_lands, by decide +kernel⟩, m_im_X4_lands, m_se_X4_lands⟩
theorem cw_L_81 : CwV RL 81 yX5_lands cX5_lands 6 (some .int) 1 := ⟨⟨m_ml_L_81, m_in_X5, m_co_X5_lands, by decide +kernel⟩, m_im_X5_lands, m_se_X5_lands⟩
theorem cw_L_82 : CwV RL 82 yX4_enough cX4_enough 4 (some .int) 2 := ⟨⟨m_ml_L_82, m_in_X4, m_co_X4_enough, by decide +kernel⟩, m_im_X4_enough, m_se_X4_enough⟩
theorem cw_L_85 : CwV RL 85 yX5_enough cX5_enough 6 (some .int) 2 := ⟨⟨m_ml_L_85, m_in_X5, m_co_X5_enough, by decide +kernel⟩, m_im_X5_enough, m_se_X5_enough⟩
theorem cw_L_86 : CwV RL 86 yX4_granted cX4_granted 3 (some .int) 1 := ⟨⟨m_ml_L_86, m_in_X4, m_co_X4_granted, by decide +kernel⟩, m_im_X4_granted, m_se_X4_granted⟩
theorem cw_L_89 : CwV RL 89 yX5_granted cX5_granted 4 (some .int) 1 := ⟨⟨m_ml_L_89, m_in_X5, m_co_X5_granted, by decide +kernel⟩, m_im_X5_granted, m_se_X5_granted⟩
theorem cw_L_90 : CwV RL 90 yX4_sees cX4_sees 3 (some .int) 2 := ⟨⟨m_ml_L_90, m_in_X4, m_co_X4_sees, by decide +kernel⟩, m_im_X4_sees, m_se_X4_sees⟩
theorem cw_L_93 : CwV RL 93 yX5_sees cX5_sees 3 (some .int) 2 := ⟨⟨m_ml_L_93, m_in_X5, m_co_X5_sees, by decide +kernel⟩, m_im_X5_sees, m_se_X5_sees⟩
theorem cw_L_94 : CwV RL 94 yX4_forget cX4_forget 2 (some .int) 0 := ⟨⟨m_ml_L_94, m_in_X4, m_co_X4_forget, by decide +kernel⟩, m_im_X4_forget, m_se_X4_forget⟩
theorem cw_L_97 : CwV RL 97 yX5_forget cX5_forget 2 (some .int) 0 := ⟨⟨m_ml_L_97, m_in_X5, m_co_X5_forget, by decide +kernel⟩, m_im_X5_forget, m_se_X5_forget⟩
theorem cw_L_98 : CwV RL 98 yX4_ranks cX4_ranks 4 (some .int) 1 := ⟨⟨m_ml_L_98, m_in_X4, m_co_X4_ranks, by decide +kernel⟩, m_im_X4_ranks, m_se_X4_ranks⟩
theorem cw_L_101 : CwV RL 101 yX5_ranks cX5_ranks 4 (some .int) 1 := ⟨⟨m_ml_L_101, m_in_X5, m_co_X5_ranks, by decide +kernel⟩, m_im_X5_ranks, m_se_X5_ranks⟩
theorem cw_L_102 : CwV RL 102 yX4_keep cX4_keep 2 (some .int) 1 := ⟨⟨m_ml_L_102, m_in_X4, m_co_X4_keep, by decide +kernel⟩, m_im_X4_keep, m_se_X4_keep⟩
theorem cw_L_105 : CwV RL 105 yX5_keep cX5_keep 3 (some .int) 1 := ⟨⟨m_ml_L_105, m_in_X5, m_co_X5_keep, by decide +kernel⟩, m_im_X5_keep, m_se_X5_keep⟩
theorem cw_L_106 : CwV RL 106 yX4_back cX4_back 2 (some .int) 1 := ⟨⟨m_ml_L_106, m_in_X4, m_co_X4_back, by decide +kernel⟩, m_im_X4_back, m_se_X4_back⟩
theorem cw_L_109 : CwV RL 109 yX5_back cX5_back 3 (some .int) 1 := ⟨⟨m_ml_L_109, m_in_X5, m_co_X5_back, by decide +kernel⟩, m_im_X5_back, m_se_X5_back⟩
theorem cw_L_110 : CwV RL 110 yX4_count cX4_count 2 (some .int) 1 := ⟨⟨m_ml_L_110, m_in_X4, m_co_X4_count, by decide +kernel⟩, m_im_X4_count, m_se_X4_count⟩
theorem cw_L_113 : CwV RL 113 yX5_count cX5_count 2 (some .int) 1 := ⟨⟨m_ml_L_113, m_in_X5, m_co_X5_count, by decide +kernel⟩, m_im_X5_count, m_se_X5_count⟩
theorem cw_X0_40 : CwV RX0 40 yX0_ofLetter cX0_ofLetter 3 (some .int) 2 := ⟨⟨m_ml_X0_40, m_in_X0, m_co_X0_ofLetter, by decide +kernel⟩, m_im_X0_ofLetter, m_se_X0_ofLetter⟩
theorem cw_X0_44 : CwS RX0 44 yJ9_floorMod_7cf53 cJ9_floorMod_7cf53 3 (some .int) 2 := ⟨⟨m_ml_X0_44, m_in_J9, m_co_J9_floorMod_7cf53, by decide +kernel⟩, m_st_J9_floorMod_7cf53⟩
theorem cw_X0_49 : CwV RX0 49 yX0_unitsOf cX0_unitsOf 2 (some .int) 1 := ⟨⟨m_ml_X0_49, m_in_X0, m_co_X0_unitsOf, by decide +kernel⟩, m_im_X0_unitsOf, m_se_X0_unitsOf⟩
theorem cw_X0_53 : CwV RX0 53 yX0_addressOf cX0_addressOf 8 (some .int) 3 := ⟨⟨m_ml_X0_53, m_in_X0, m_co_X0_addressOf, by decide +kernel⟩, m_im_X0_addressOf, m_se_X0_addressOf⟩
theorem cw_X0_57 : CwV RX0 57 yX0_isToCarry cX0_isToCarry 3 (some .boolean) 1 := ⟨⟨m_ml_X0_57, m_in_X0, m_co_X0_isToCarry, by decide +kernel⟩, m_im_X0_isToCarry, m_se_X0_isToCarry⟩
theorem cw_X0_61 : CwV RX0 61 yX0_uncarriedBoundFor cX0_uncarriedBoundFor 6 (some .int) 2 := ⟨⟨m_ml_X0_61, m_in_X0, m_co_X0_uncarriedBoundFor, by decide +kernel⟩, m_im_X0_uncarriedBoundFor, m_se_X0_uncarriedBoundFor⟩
theorem cw_X0_64 : CwS RX0 64 yX0_placeOf cX0_placeOf 2 (some .int) 2 := ⟨⟨m_ml_X0_64, m_in_X0, m_co_X0_placeOf, by decide +kernel⟩, m_st_X0_placeOf⟩
theorem cw_X0_67 : CwV RX0 67 yX0_isEngines cX0_isEngines 2 (some .boolean) 1 := ⟨⟨m_ml_X0_67, m_in_X0, m_co_X0_isEngines, by decide +kernel⟩, m_im_X0_isEngines, m_se_X0_isEngines⟩
theorem cw_X0_70 : CwV RX0 70 yX0_engineLettersOf cX0_engineLettersOf 4 (some .int) 1 := ⟨⟨m_ml_X0_70, m_in_X0, m_co_X0_engineLettersOf, by decide +kernel⟩, m_im_X0_engineLettersOf, m_se_X0_engineLettersOf⟩
theorem cw_X0_73 : CwV RX0 73 yX0_ofChannel cX0_ofChannel 3 (some .int) 2 := ⟨⟨m_ml_X0_73, m_in_X0, m_co_X0_ofChannel, by decide +kernel⟩, m_im_X0_ofChannel, m_se_X0_ofChannel⟩
theorem cw_X0_76 : CwV RX0 76 yX0_presentOf cX0_presentOf 3 (some .int) 1 := ⟨⟨m_ml_X0_76, m_in_X0, m_co_X0_presentOf, by decide +kernel⟩, m_im_X0_presentOf, m_se_X0_presentOf⟩
theorem cw_X0_79 : CwV RX0 79 yX3_number cX3_number 3 (some .int) 2 := ⟨⟨m_ml_X0_79, m_in_X3, m_co_X3_number, by decide +kernel⟩, m_im_X3_number, m_se_X3_number⟩
theorem cw_X0_84 : CwV RX0 84 yX3_kind cX3_kind 2 (some .int) 1 := ⟨⟨m_ml_X0_84, m_in_X3, m_co_X3_kind, by decide +kernel⟩, m_im_X3_kind, m_se_X3_kind⟩
theorem cw_X0_87 : CwV RX0 87 yX0_post cX0_post 7 (some .boolean) 3 := ⟨⟨m_ml_X0_87, m_in_X0, m_co_X0_post, by decide +kernel⟩, m_im_X0_post, m_se_X0_post⟩
theorem cw_X0_91 : CwV RX0 91 yX0_setChannel cX0_setChannel 4 none 3 := ⟨⟨m_ml_X0_91, m_in_X0, m_co_X0_setChannel, by decide +kernel⟩, m_im_X0_setChannel, m_se_X0_setChannel⟩
theorem cw_X0_95 : CwV RX0 95 yX0_setLetter cX0_setLetter 4 none 3 := ⟨⟨m_ml_X0_95, m_in_X0, m_co_X0_setLetter, by decide +kernel⟩, m_im_X0_setLetter, m_se_X0_setLetter⟩
theorem cw_X0_98 : CwS RX0 98 yX0_slotBehind cX0_slotBehind 1 (some .int) 1 := ⟨⟨m_ml_X0_98, m_in_X0, m_co_X0_slotBehind, by decide +kernel⟩, m_st_X0_slotBehind⟩
theorem cw_X0_101 : CwV RX0 101 yX0_writeBack cX0_writeBack 4 none 1 := ⟨⟨m_ml_X0_101, m_in_X0, m_co_X0_writeBack, by decide +kernel⟩, m_im_X0_writeBack, m_se_X0_writeBack⟩
theorem cw_X0_105 : CwV RX0 105 yX0_nextToGrant cX0_nextToGrant 4 (some .int) 0 := ⟨⟨m_ml_X0_105, m_in_X0, m_co_X0_nextToGrant, by decide +kernel⟩, m_im_X0_nextToGrant, m_se_X0_nextToGrant⟩
theorem cw_X0_109 : CwV RX0 109 yX0_grant cX0_grant 6 none 2 := ⟨⟨m_ml_X0_109, m_in_X0, m_co_X0_grant, by decide +kernel⟩, m_im_X0_grant, m_se_X0_grant⟩
theorem cw_X0_113 : CwV RX0 113 yX0_addOneTo cX0_addOneTo 3 none 2 := ⟨⟨m_ml_X0_113, m_in_X0, m_co_X0_addOneTo, by decide +kernel⟩, m_im_X0_addOneTo, m_se_X0_addOneTo⟩
theorem cw_X0_117 : CwV RX0 117 yX0_isReady cX0_isReady 3 (some .boolean) 1 := ⟨⟨m_ml_X0_117, m_in_X0, m_co_X0_isReady, by decide +kernel⟩, m_im_X0_isReady, m_se_X0_isReady⟩
theorem cw_X0_120 : CwS RX0 120 yJ9_min_7cf53 cJ9_min_7cf53 2 (some .int) 2 := ⟨⟨m_ml_X0_120, m_in_J9, m_co_J9_min_7cf53, by decide +kernel⟩, m_st_J9_min_7cf53⟩
theorem cw_X0_123 : CwV RX0 123 yX0_carry cX0_carry 5 none 3 := ⟨⟨m_ml_X0_123, m_in_X0, m_co_X0_carry, by decide +kernel⟩, m_im_X0_carry, m_se_X0_carry⟩
theorem cw_X0_126 : CwV RX0 126 yX0_letWait cX0_letWait 3 none 2 := ⟨⟨m_ml_X0_126, m_in_X0, m_co_X0_letWait, by decide +kernel⟩, m_im_X0_letWait, m_se_X0_letWait⟩
theorem cw_X0_129 : CwV RX0 129 yX0_writeBackAllOf cX0_writeBackAllOf 4 none 1 := ⟨⟨m_ml_X0_129, m_in_X0, m_co_X0_writeBackAllOf, by decide +kernel⟩, m_im_X0_writeBackAllOf, m_se_X0_writeBackAllOf⟩
theorem cw_X1_23 : CwV RX1 23 yX0_copyFrom cX0_copyFrom 2 none 1 := ⟨⟨m_ml_X1_23, m_in_X0, m_co_X0_copyFrom, by decide +kernel⟩, m_im_X0_copyFrom, m_se_X0_copyFrom⟩
theorem cw_X1_27 : CwS RX1 27 yJ9_min_7cf53 cJ9_min_7cf53 2 (some .int) 2 := ⟨⟨m_ml_X1_27, m_in_J9, m_co_J9_min_7cf53, by decide +kernel⟩, m_st_J9_min_7cf53⟩
theorem cw_X2_20 : CwV RX2 20 yX2_lastTick cX2_lastTick 3 (some .int) 0 := ⟨⟨m_ml_X2_20, m_in_X2, m_co_X2_lastTick, by decide +kernel⟩, m_im_X2_lastTick, m_se_X2_lastTick⟩
theorem cw_X2_24 : CwV RX2 24 yX0_tick cX0_tick 3 (some .int) 1 := ⟨⟨m_ml_X2_24, m_in_X0, m_co_X0_tick, by decide +kernel⟩, m_im_X0_tick, m_se_X0_tick⟩
theorem cw_X2_30 : CwV RX2 30 yX2_allowsInTick cX2_allowsInTick 4 (some .boolean) 2 := ⟨⟨m_ml_X2_30, m_in_X2, m_co_X2_allowsInTick, by decide +kernel⟩, m_im_X2_allowsInTick, m_se_X2_allowsInTick⟩
theorem cw_X2_34 : CwS RX2 34 yJ9_max_7cf53 cJ9_max_7cf53 2 (some .int) 2 := ⟨⟨m_ml_X2_34, m_in_J9, m_co_J9_max_7cf53, by decide +kernel⟩, m_st_J9_max_7cf53⟩
theorem cw_X3_29 : CwV RX3 29 yX3_skipBlanks cX3_skipBlanks 1 none 0 := ⟨⟨m_ml_X3_29, m_in_X3, m_co_X3_skipBlanks, by decide +kernel⟩, m_im_X3_skipBlanks, m_se_X3_skipBlanks⟩
theorem cw_X3_32 : CwV RX3 32 yX3_readItem cX3_readItem 2 (some .boolean) 0 := ⟨⟨m_ml_X3_32, m_in_X3, m_co_X3_readItem, by decide +kernel⟩, m_im_X3_readItem, m_se_X3_readItem⟩
theorem cw_X3_42 : CwV RX3 42 yX3_readForm cX3_readForm 5 (some .boolean) 3 := ⟨⟨m_ml_X3_42, m_in_X3, m_co_X3_readForm, by decide +kernel⟩, m_im_X3_readForm, m_se_X3_readForm⟩
theorem cw_X3_58 : CwV RX3 58 yX3_readNumber cX3_readNumber 8 (some .boolean) 3 := ⟨⟨m_ml_X3_58, m_in_X3, m_co_X3_readNumber, by decide +kernel⟩, m_im_X3_readNumber, m_se_X3_readNumber⟩
theorem cw_X3_62 : CwS RX3 62 yX3_isFigure cX3_isFigure 1 (some .boolean) 1 := ⟨⟨m_ml_X3_62, m_in_X3, m_co_X3_isFigure, by decide +kernel⟩, m_st_X3_isFigure⟩
theorem cw_X4_48 : CwS RX4 48 yX4_within cX4_within 3 (some .boolean) 3 := ⟨⟨m_ml_X4_48, m_in_X4, m_co_X4_within, by decide +kernel⟩, m_st_X4_within⟩
theorem cw_X4_52 : CwV RX4 52 yX3_append cX3_append 2 (some .boolean) 1 := ⟨⟨m_ml_X4_52, m_in_X3, m_co_X3_append, by decide +kernel⟩, m_im_X3_append, m_se_X3_append⟩
theorem cw_X4_60 : CwV RX4 60 yX3_wipe cX3_wipe 1 none 0 := ⟨⟨m_ml_X4_60, m_in_X3, m_co_X3_wipe, by decide +kernel⟩, m_im_X3_wipe, m_se_X3_wipe⟩
theorem cw_X4_63 : CwV RX4 63 yX3_read cX3_read 1 (some .int) 0 := ⟨⟨m_ml_X4_63, m_in_X3, m_co_X3_read, by decide +kernel⟩, m_im_X3_read, m_se_X3_read⟩
theorem cw_X4_67 : CwV RX4 67 yX0_copyFrom cX0_copyFrom 2 none 1 := ⟨⟨m_ml_X4_67, m_in_X0, m_co_X0_copyFrom, by decide +kernel⟩, m_im_X0_copyFrom, m_se_X0_copyFrom⟩
theorem cw_X4_74 : CwV RX4 74 yX0_take cX0_take 4 (some .boolean) 2 := ⟨⟨m_ml_X4_74, m_in_X0, m_co_X0_take, by decide +kernel⟩, m_im_X0_take, m_se_X0_take⟩
theorem cw_X4_78 : CwV RX4 78 yX1_remember cX1_remember 2 none 1 := ⟨⟨m_ml_X4_78, m_in_X1, m_co_X1_remember, by decide +kernel⟩, m_im_X1_remember, m_se_X1_remember⟩
theorem cw_X4_81 : CwV RX4 81 yX0_tick cX0_tick 3 (some .int) 1 := ⟨⟨m_ml_X4_81, m_in_X0, m_co_X0_tick, by decide +kernel⟩, m_im_X0_tick, m_se_X0_tick⟩
theorem cw_X4_85 : CwS RX4 85 yX4_isChannel cX4_isChannel 1 (some .boolean) 1 := ⟨⟨m_ml_X4_85, m_in_X4, m_co_X4_isChannel, by decide +kernel⟩, m_st_X4_isChannel⟩
theorem cw_X4_88 : CwV RX4 88 yX0_presentOf cX0_presentOf 3 (some .int) 1 := ⟨⟨m_ml_X4_88, m_in_X0, m_co_X0_presentOf, by decide +kernel⟩, m_im_X0_presentOf, m_se_X0_presentOf⟩
theorem cw_X4_92 : CwV RX4 92 yX0_cancel cX0_cancel 7 (some .int) 1 := ⟨⟨m_ml_X4_92, m_in_X0, m_co_X0_cancel, by decide +kernel⟩, m_im_X0_cancel, m_se_X0_cancel⟩
theorem cw_X4_95 : CwV RX4 95 yX0_ofChannel cX0_ofChannel 3 (some .int) 2 := ⟨⟨m_ml_X4_95, m_in_X0, m_co_X0_ofChannel, by decide +kernel⟩, m_im_X0_ofChannel, m_se_X0_ofChannel⟩
theorem cw_X4_99 : CwV RX4 99 yX0_setChannel cX0_setChannel 4 none 3 := ⟨⟨m_ml_X4_99, m_in_X0, m_co_X0_setChannel, by decide +kernel⟩, m_im_X0_setChannel, m_se_X0_setChannel⟩
theorem cw_X4_103 : CwV RX4 103 yX1_restore cX1_restore 2 (some .boolean) 1 := ⟨⟨m_ml_X4_103, m_in_X1, m_co_X1_restore, by decide +kernel⟩, m_im_X1_restore, m_se_X1_restore⟩
theorem cw_X4_114 : CwV RX4 114 yX4_presentResidue cX4_presentResidue 3 (some .int) 1 := ⟨⟨m_ml_X4_114, m_in_X4, m_co_X4_presentResidue, by decide +kernel⟩, m_im_X4_presentResidue, m_se_X4_presentResidue⟩
theorem cw_X4_117 : CwV RX4 117 yX0_isReady cX0_isReady 3 (some .boolean) 1 := ⟨⟨m_ml_X4_117, m_in_X0, m_co_X0_isReady, by decide +kernel⟩, m_im_X0_isReady, m_se_X0_isReady⟩
theorem cw_X4_120 : CwS RX4 120 yX4_isSlot cX4_isSlot 2 (some .boolean) 2 := ⟨⟨m_ml_X4_120, m_in_X4, m_co_X4_isSlot, by decide +kernel⟩, m_st_X4_isSlot⟩
theorem cw_X4_124 : CwS RX4 124 yX0_placeOf cX0_placeOf 2 (some .int) 2 := ⟨⟨m_ml_X4_124, m_in_X0, m_co_X0_placeOf, by decide +kernel⟩, m_st_X0_placeOf⟩
theorem cw_X4_127 : CwV RX4 127 yX0_hasLetter cX0_hasLetter 2 (some .boolean) 1 := ⟨⟨m_ml_X4_127, m_in_X0, m_co_X0_hasLetter, by decide +kernel⟩, m_im_X0_hasLetter, m_se_X0_hasLetter⟩
theorem cw_X4_130 : CwV RX4 130 yX0_ofLetter cX0_ofLetter 3 (some .int) 2 := ⟨⟨m_ml_X4_130, m_in_X0, m_co_X0_ofLetter, by decide +kernel⟩, m_im_X0_ofLetter, m_se_X0_ofLetter⟩
theorem cw_X4_133 : CwV RX4 133 yX0_unitsOf cX0_unitsOf 2 (some .int) 1 := ⟨⟨m_ml_X4_133, m_in_X0, m_co_X0_unitsOf, by decide +kernel⟩, m_im_X0_unitsOf, m_se_X0_unitsOf⟩
theorem cw_X4_136 : CwV RX4 136 yX0_addressOf cX0_addressOf 8 (some .int) 3 := ⟨⟨m_ml_X4_136, m_in_X0, m_co_X0_addressOf, by decide +kernel⟩, m_im_X0_addressOf, m_se_X0_addressOf⟩
theorem cw_X4_146 : CwV RX4 146 yX0_writtenBy cX0_writtenBy 6 (some .long) 1 := ⟨⟨m_ml_X4_146, m_in_X0, m_co_X0_writtenBy, by decide +kernel⟩, m_im_X0_writtenBy, m_se_X0_writtenBy⟩
theorem cw_X4_150 : CwS RX4 150 yJ13_bitCount_95d88 cJ13_bitCount_95d88 2 (some .int) 1 := ⟨⟨m_ml_X4_150, m_in_J13, m_co_J13_bitCount_95d88, by decide +kernel⟩, m_st_J13_bitCount_95d88⟩
theorem cw_X4_156 : CwV RX4 156 yX4_ticksUntilOver cX4_ticksUntilOver 6 (some .int) 2 := ⟨⟨m_ml_X4_156, m_in_X4, m_co_X4_ticksUntilOver, by decide +kernel⟩, m_im_X4_ticksUntilOver, m_se_X4_ticksUntilOver⟩
theorem cw_X4_159 : CwV RX4 159 yX0_unitsBoundFor cX0_unitsBoundFor 4 (some .int) 1 := ⟨⟨m_ml_X4_159, m_in_X0, m_co_X0_unitsBoundFor, by decide +kernel⟩, m_im_X0_unitsBoundFor, m_se_X0_unitsBoundFor⟩
theorem cw_X4_162 : CwV RX4 162 yX2_note cX2_note 3 (some .boolean) 2 := ⟨⟨m_ml_X4_162, m_in_X2, m_co_X2_note, by decide +kernel⟩, m_im_X2_note, m_se_X2_note⟩
theorem cw_X4_168 : CwV RX4 168 yX2_drop cX2_drop 1 none 0 := ⟨⟨m_ml_X4_168, m_in_X2, m_co_X2_drop, by decide +kernel⟩, m_im_X2_drop, m_se_X2_drop⟩
theorem cw_X4_171 : CwV RX4 171 yX2_comeTrue cX2_comeTrue 4 (some .boolean) 1 := ⟨⟨m_ml_X4_171, m_in_X2, m_co_X2_comeTrue, by decide +kernel⟩, m_im_X2_comeTrue, m_se_X2_comeTrue⟩
theorem cw_X4_174 : CwV RX4 174 yX0_engineLetters cX0_engineLetters 3 (some .int) 0 := ⟨⟨m_ml_X4_174, m_in_X0, m_co_X0_engineLetters, by decide +kernel⟩, m_im_X0_engineLetters, m_se_X0_engineLetters⟩
theorem cw_X4_177 : CwV RX4 177 yX1_lose cX1_lose 1 none 0 := ⟨⟨m_ml_X4_177, m_in_X1, m_co_X1_lose, by decide +kernel⟩, m_im_X1_lose, m_se_X1_lose⟩
theorem cw_X4_186 : CwV RX4 186 yX0_engineLettersOf cX0_engineLettersOf 4 (some .int) 1 := ⟨⟨m_ml_X4_186, m_in_X0, m_co_X0_engineLettersOf, by decide +kernel⟩, m_im_X0_engineLettersOf, m_se_X0_engineLettersOf⟩
theorem cw_X5_38 : CwS RX5 38 yX5_in cX5_in 3 (some .boolean) 3 := ⟨⟨m_ml_X5_38, m_in_X5, m_co_X5_in, by decide +kernel⟩, m_st_X5_in⟩
theorem cw_X5_49 : CwV RX5 49 yX5_isFigure cX5_isFigure 2 (some .boolean) 1 := ⟨⟨m_ml_X5_49, m_in_X5, m_co_X5_isFigure, by decide +kernel⟩, m_im_X5_isFigure, m_se_X5_isFigure⟩
theorem cw_X5_62 : CwV RX5 62 yX5_takesNumber cX5_takesNumber 6 none 0 := ⟨⟨m_ml_X5_62, m_in_X5, m_co_X5_takesNumber, by decide +kernel⟩, m_im_X5_takesNumber, m_se_X5_takesNumber⟩
theorem cw_X5_65 : CwV RX5 65 yX5_takes cX5_takes 1 none 0 := ⟨⟨m_ml_X5_65, m_in_X5, m_co_X5_takes, by decide +kernel⟩, m_im_X5_takes, m_se_X5_takes⟩
theorem cw_X5_68 : CwV RX5 68 yX5_reads cX5_reads 4 (some .boolean) 3 := ⟨⟨m_ml_X5_68, m_in_X5, m_co_X5_reads, by decide +kernel⟩, m_im_X5_reads, m_se_X5_reads⟩
theorem cw_X5_71 : CwV RX5 71 yX5_readsLetter cX5_readsLetter 2 (some .boolean) 0 := ⟨⟨m_ml_X5_71, m_in_X5, m_co_X5_readsLetter, by decide +kernel⟩, m_im_X5_readsLetter, m_se_X5_readsLetter⟩
theorem cw_X5_75 : CwS RX5 75 yX5_channelAt cX5_channelAt 1 (some .int) 1 := ⟨⟨m_ml_X5_75, m_in_X5, m_co_X5_channelAt, by decide +kernel⟩, m_st_X5_channelAt⟩
theorem cw_X5_79 : CwS RX5 79 yX5_slotAt cX5_slotAt 2 (some .int) 2 := ⟨⟨m_ml_X5_79, m_in_X5, m_co_X5_slotAt, by decide +kernel⟩, m_st_X5_slotAt⟩
theorem cw_X5_83 : CwV RX5 83 yX5_isEngines cX5_isEngines 2 (some .boolean) 1 := ⟨⟨m_ml_X5_83, m_in_X5, m_co_X5_isEngines, by decide +kernel⟩, m_im_X5_isEngines, m_se_X5_isEngines⟩
theorem cw_X5_86 : CwV RX5 86 yX5_comes cX5_comes 4 (some .boolean) 0 := ⟨⟨m_ml_X5_86, m_in_X5, m_co_X5_comes, by decide +kernel⟩, m_im_X5_comes, m_se_X5_comes⟩
theorem cw_X5_92 : CwV RX5 92 yX5_readsItem cX5_readsItem 3 (some .boolean) 1 := ⟨⟨m_ml_X5_92, m_in_X5, m_co_X5_readsItem, by decide +kernel⟩, m_im_X5_readsItem, m_se_X5_readsItem⟩
theorem cw_X5_95 : CwV RX5 95 yX5_doesItem cX5_doesItem 2 (some .boolean) 1 := ⟨⟨m_ml_X5_95, m_in_X5, m_co_X5_doesItem, by decide +kernel⟩, m_im_X5_doesItem, m_se_X5_doesItem⟩
theorem cw_X5_101 : CwV RX5 101 yX5_goesThrough cX5_goesThrough 4 (some .boolean) 1 := ⟨⟨m_ml_X5_101, m_in_X5, m_co_X5_goesThrough, by decide +kernel⟩, m_im_X5_goesThrough, m_se_X5_goesThrough⟩
theorem cw_X5_105 : CwV RX5 105 yX5_keepsSpare cX5_keepsSpare 2 none 0 := ⟨⟨m_ml_X5_105, m_in_X5, m_co_X5_keepsSpare, by decide +kernel⟩, m_im_X5_keepsSpare, m_se_X5_keepsSpare⟩
theorem cw_X5_108 : CwV RX5 108 yX5_takesBack cX5_takesBack 2 none 0 := ⟨⟨m_ml_X5_108, m_in_X5, m_co_X5_takesBack, by decide +kernel⟩, m_im_X5_takesBack, m_se_X5_takesBack⟩
theorem cw_X5_111 : CwV RX5 111 yX5_remembers cX5_remembers 2 none 0 := ⟨⟨m_ml_X5_111, m_in_X5, m_co_X5_remembers, by decide +kernel⟩, m_im_X5_remembers, m_se_X5_remembers⟩
theorem cw_X5_114 : CwV RX5 114 yX5_present cX5_present 3 (some .int) 1 := ⟨⟨m_ml_X5_114, m_in_X5, m_co_X5_present, by decide +kernel⟩, m_im_X5_present, m_se_X5_present⟩
theorem cw_X5_117 : CwS RX5 117 yX5_around cX5_around 2 (some .int) 1 := ⟨⟨m_ml_X5_117, m_in_X5, m_co_X5_around, by decide +kernel⟩, m_st_X5_around⟩
theorem cw_X5_120 : CwV RX5 120 yX5_unitsOf cX5_unitsOf 2 (some .int) 1 := ⟨⟨m_ml_X5_120, m_in_X5, m_co_X5_unitsOf, by decide +kernel⟩, m_im_X5_unitsOf, m_se_X5_unitsOf⟩
theorem cw_X5_123 : CwV RX5 123 yX5_addressOf cX5_addressOf 6 (some .int) 3 := ⟨⟨m_ml_X5_123, m_in_X5, m_co_X5_addressOf, by decide +kernel⟩, m_im_X5_addressOf, m_se_X5_addressOf⟩
theorem cw_X5_127 : CwV RX5 127 yX5_writes cX5_writes 5 none 1 := ⟨⟨m_ml_X5_127, m_in_X5, m_co_X5_writes, by decide +kernel⟩, m_im_X5_writes, m_se_X5_writes⟩
theorem cw_X5_131 : CwV RX5 131 yX5_isReady cX5_isReady 4 (some .boolean) 1 := ⟨⟨m_ml_X5_131, m_in_X5, m_co_X5_isReady, by decide +kernel⟩, m_im_X5_isReady, m_se_X5_isReady⟩
theorem cw_X5_134 : CwV RX5 134 yX5_carries cX5_carries 7 none 1 := ⟨⟨m_ml_X5_134, m_in_X5, m_co_X5_carries, by decide +kernel⟩, m_im_X5_carries, m_se_X5_carries⟩
theorem cw_X5_137 : CwV RX5 137 yX5_ticksOnce cX5_ticksOnce 5 (some .int) 0 := ⟨⟨m_ml_X5_137, m_in_X5, m_co_X5_ticksOnce, by decide +kernel⟩, m_im_X5_ticksOnce, m_se_X5_ticksOnce⟩
theorem cw_X5_141 : CwS RX5 141 yX5_isChannel cX5_isChannel 1 (some .boolean) 1 := ⟨⟨m_ml_X5_141, m_in_X5, m_co_X5_isChannel, by decide +kernel⟩, m_st_X5_isChannel⟩
theorem cw_X5_144 : CwV RX5 144 yX5_writesAll cX5_writesAll 3 none 1 := ⟨⟨m_ml_X5_144, m_in_X5, m_co_X5_writesAll, by decide +kernel⟩, m_im_X5_writesAll, m_se_X5_writesAll⟩
theorem cw_X5_147 : CwS RX5 147 yX5_isSlot cX5_isSlot 2 (some .boolean) 2 := ⟨⟨m_ml_X5_147, m_in_X5, m_co_X5_isSlot, by decide +kernel⟩, m_st_X5_isSlot⟩
theorem cw_X5_151 : CwV RX5 151 yX5_writesOf cX5_writesOf 5 (some .long) 1 := ⟨⟨m_ml_X5_151, m_in_X5, m_co_X5_writesOf, by decide +kernel⟩, m_im_X5_writesOf, m_se_X5_writesOf⟩
theorem cw_X5_155 : CwV RX5 155 yX5_hasEngines cX5_hasEngines 4 (some .boolean) 1 := ⟨⟨m_ml_X5_155, m_in_X5, m_co_X5_hasEngines, by decide +kernel⟩, m_im_X5_hasEngines, m_se_X5_hasEngines⟩
theorem cw_X5_158 : CwV RX5 158 yX5_overOf cX5_overOf 3 (some .int) 1 := ⟨⟨m_ml_X5_158, m_in_X5, m_co_X5_overOf, by decide +kernel⟩, m_im_X5_overOf, m_se_X5_overOf⟩
theorem cw_X5_164 : CwV RX5 164 yX5_isSeen cX5_isSeen 5 (some .boolean) 0 := ⟨⟨m_ml_X5_164, m_in_X5, m_co_X5_isSeen, by decide +kernel⟩, m_im_X5_isSeen, m_se_X5_isSeen⟩
theorem cw_X5_167 : CwV RX5 167 yX5_engines cX5_engines 3 (some .int) 0 := ⟨⟨m_ml_X5_167, m_in_X5, m_co_X5_engines, by decide +kernel⟩, m_im_X5_engines, m_se_X5_engines⟩
end
