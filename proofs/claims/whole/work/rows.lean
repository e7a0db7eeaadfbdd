section
-- ===== PART A: goes FIRST, ahead of the names: the tables' words, and 'selects' of the private methods out of them =====
/-- a private method of a class that the tables say can be made, by its rows of tables_1 -/
def lw_okq (q : MethodName × Nat) : Prop := (q.1.cls ≠ "java/lang/invoke/MethodHandle" ∧ q.1.cls ≠ "java/lang/invoke/VarHandle") ∧ Cond.instantiable q.1.cls q.2 ∈ tables_1 ∧ Cond.privateMethod q.1 ∈ tables_1 ∧ Cond.instanceMethod q.1 ∈ tables_1
theorem lw_p0 : lw_okq (⟨"TransferRings$Text", "skipBlanks", "()V"⟩, 6) := ⟨⟨by decide +kernel, by decide +kernel⟩, List.mem_of_getElem? (i := 19) (by decide +kernel), List.mem_of_getElem? (i := 167) (by decide +kernel), List.mem_of_getElem? (i := 168) (by decide +kernel)⟩
theorem lw_p1 : lw_okq (⟨"TransferRings$Text", "readItem", "()Z"⟩, 6) := ⟨⟨by decide +kernel, by decide +kernel⟩, List.mem_of_getElem? (i := 19) (by decide +kernel), List.mem_of_getElem? (i := 171) (by decide +kernel), List.mem_of_getElem? (i := 172) (by decide +kernel)⟩
theorem lw_p2 : lw_okq (⟨"TransferRings$Text", "readForm", "(I[I[I)Z"⟩, 6) := ⟨⟨by decide +kernel, by decide +kernel⟩, List.mem_of_getElem? (i := 19) (by decide +kernel), List.mem_of_getElem? (i := 179) (by decide +kernel), List.mem_of_getElem? (i := 180) (by decide +kernel)⟩
theorem lw_p3 : lw_okq (⟨"TransferRings$Text", "readNumber", "(III)Z"⟩, 6) := ⟨⟨by decide +kernel, by decide +kernel⟩, List.mem_of_getElem? (i := 19) (by decide +kernel), List.mem_of_getElem? (i := 183) (by decide +kernel), List.mem_of_getElem? (i := 184) (by decide +kernel)⟩
theorem lw_p4 : lw_okq (⟨"TransferRings$Engine", "post", "(ILTransferRings$Text;I)Z"⟩, 7) := ⟨⟨by decide +kernel, by decide +kernel⟩, List.mem_of_getElem? (i := 47) (by decide +kernel), List.mem_of_getElem? (i := 218) (by decide +kernel), List.mem_of_getElem? (i := 219) (by decide +kernel)⟩
theorem lw_p5 : lw_okq (⟨"TransferRings$Engine", "writeBack", "(I)V"⟩, 7) := ⟨⟨by decide +kernel, by decide +kernel⟩, List.mem_of_getElem? (i := 47) (by decide +kernel), List.mem_of_getElem? (i := 268) (by decide +kernel), List.mem_of_getElem? (i := 269) (by decide +kernel)⟩
theorem lw_p6 : lw_okq (⟨"TransferRings$Engine", "nextToGrant", "()I"⟩, 7) := ⟨⟨by decide +kernel, by decide +kernel⟩, List.mem_of_getElem? (i := 47) (by decide +kernel), List.mem_of_getElem? (i := 276) (by decide +kernel), List.mem_of_getElem? (i := 277) (by decide +kernel)⟩
theorem lw_p7 : lw_okq (⟨"TransferRings$Engine", "grant", "(IZ)V"⟩, 7) := ⟨⟨by decide +kernel, by decide +kernel⟩, List.mem_of_getElem? (i := 47) (by decide +kernel), List.mem_of_getElem? (i := 292) (by decide +kernel), List.mem_of_getElem? (i := 293) (by decide +kernel)⟩
theorem lw_p8 : lw_okq (⟨"TransferRings$Engine", "carry", "(III)V"⟩, 7) := ⟨⟨by decide +kernel, by decide +kernel⟩, List.mem_of_getElem? (i := 47) (by decide +kernel), List.mem_of_getElem? (i := 297) (by decide +kernel), List.mem_of_getElem? (i := 298) (by decide +kernel)⟩
theorem lw_p9 : lw_okq (⟨"TransferRings$Engine", "letWait", "(II)V"⟩, 7) := ⟨⟨by decide +kernel, by decide +kernel⟩, List.mem_of_getElem? (i := 47) (by decide +kernel), List.mem_of_getElem? (i := 308) (by decide +kernel), List.mem_of_getElem? (i := 309) (by decide +kernel)⟩
theorem lw_p10 : lw_okq (⟨"TransferRings$Engine", "writeBackAllOf", "(I)V"⟩, 7) := ⟨⟨by decide +kernel, by decide +kernel⟩, List.mem_of_getElem? (i := 47) (by decide +kernel), List.mem_of_getElem? (i := 324) (by decide +kernel), List.mem_of_getElem? (i := 325) (by decide +kernel)⟩
theorem lw_p11 : lw_okq (⟨"TransferRings", "presentResidue", "(I)I"⟩, 7) := ⟨⟨by decide +kernel, by decide +kernel⟩, List.mem_of_getElem? (i := 11) (by decide +kernel), List.mem_of_getElem? (i := 354) (by decide +kernel), List.mem_of_getElem? (i := 355) (by decide +kernel)⟩
theorem lw_p12 : lw_okq (⟨"TransferRings", "ticksUntilOver", "(II)I"⟩, 7) := ⟨⟨by decide +kernel, by decide +kernel⟩, List.mem_of_getElem? (i := 11) (by decide +kernel), List.mem_of_getElem? (i := 400) (by decide +kernel), List.mem_of_getElem? (i := 401) (by decide +kernel)⟩
theorem lw_p13 : lw_okq (⟨"TransferRings$Engine", "uncarriedBoundFor", "(II)I"⟩, 7) := ⟨⟨by decide +kernel, by decide +kernel⟩, List.mem_of_getElem? (i := 47) (by decide +kernel), List.mem_of_getElem? (i := 416) (by decide +kernel), List.mem_of_getElem? (i := 417) (by decide +kernel)⟩
theorem lw_p14 : lw_okq (⟨"TransferRings$Sightings", "lastTick", "()I"⟩, 3) := ⟨⟨by decide +kernel, by decide +kernel⟩, List.mem_of_getElem? (i := 100) (by decide +kernel), List.mem_of_getElem? (i := 452) (by decide +kernel), List.mem_of_getElem? (i := 453) (by decide +kernel)⟩
theorem lw_p15 : lw_okq (⟨"TransferRings$Sightings", "allowsInTick", "(II)Z"⟩, 3) := ⟨⟨by decide +kernel, by decide +kernel⟩, List.mem_of_getElem? (i := 100) (by decide +kernel), List.mem_of_getElem? (i := 460) (by decide +kernel), List.mem_of_getElem? (i := 461) (by decide +kernel)⟩
def lw_privs_1 : List (MethodName × Nat) := [(⟨"TransferRings$Text", "skipBlanks", "()V"⟩, 6), (⟨"TransferRings$Text", "readItem", "()Z"⟩, 6), (⟨"TransferRings$Text", "readForm", "(I[I[I)Z"⟩, 6), (⟨"TransferRings$Text", "readNumber", "(III)Z"⟩, 6), (⟨"TransferRings$Engine", "post", "(ILTransferRings$Text;I)Z"⟩, 7), (⟨"TransferRings$Engine", "writeBack", "(I)V"⟩, 7), (⟨"TransferRings$Engine", "nextToGrant", "()I"⟩, 7), (⟨"TransferRings$Engine", "grant", "(IZ)V"⟩, 7), (⟨"TransferRings$Engine", "carry", "(III)V"⟩, 7), (⟨"TransferRings$Engine", "letWait", "(II)V"⟩, 7), (⟨"TransferRings$Engine", "writeBackAllOf", "(I)V"⟩, 7), (⟨"TransferRings", "presentResidue", "(I)I"⟩, 7), (⟨"TransferRings", "ticksUntilOver", "(II)I"⟩, 7), (⟨"TransferRings$Engine", "uncarriedBoundFor", "(II)I"⟩, 7), (⟨"TransferRings$Sightings", "lastTick", "()I"⟩, 3), (⟨"TransferRings$Sightings", "allowsInTick", "(II)Z"⟩, 3)]
theorem lw_r1 : ∀ q ∈ lw_privs_1, lw_okq q := List.forall_mem_cons.mpr ⟨lw_p0, List.forall_mem_cons.mpr ⟨lw_p1, List.forall_mem_cons.mpr ⟨lw_p2, List.forall_mem_cons.mpr ⟨lw_p3, List.forall_mem_cons.mpr ⟨lw_p4, List.forall_mem_cons.mpr ⟨lw_p5, List.forall_mem_cons.mpr ⟨lw_p6, List.forall_mem_cons.mpr ⟨lw_p7, List.forall_mem_cons.mpr ⟨lw_p8, List.forall_mem_cons.mpr ⟨lw_p9, List.forall_mem_cons.mpr ⟨lw_p10, List.forall_mem_cons.mpr ⟨lw_p11, List.forall_mem_cons.mpr ⟨lw_p12, List.forall_mem_cons.mpr ⟨lw_p13, List.forall_mem_cons.mpr ⟨lw_p14, List.forall_mem_cons.mpr ⟨lw_p15, fun _ h => absurd h List.not_mem_nil⟩⟩⟩⟩⟩⟩⟩⟩⟩⟩⟩⟩⟩⟩⟩⟩
theorem lw_p16 : lw_okq (⟨"TransferRingsModel", "goesThrough", "(Z)Z"⟩, 17) := ⟨⟨by decide +kernel, by decide +kernel⟩, List.mem_of_getElem? (i := 485) (by decide +kernel), List.mem_of_getElem? (i := 558) (by decide +kernel), List.mem_of_getElem? (i := 559) (by decide +kernel)⟩
theorem lw_p17 : lw_okq (⟨"TransferRingsModel", "takes", "()V"⟩, 17) := ⟨⟨by decide +kernel, by decide +kernel⟩, List.mem_of_getElem? (i := 485) (by decide +kernel), List.mem_of_getElem? (i := 562) (by decide +kernel), List.mem_of_getElem? (i := 563) (by decide +kernel)⟩
theorem lw_p18 : lw_okq (⟨"TransferRingsModel", "isFigure", "(I)Z"⟩, 17) := ⟨⟨by decide +kernel, by decide +kernel⟩, List.mem_of_getElem? (i := 485) (by decide +kernel), List.mem_of_getElem? (i := 566) (by decide +kernel), List.mem_of_getElem? (i := 567) (by decide +kernel)⟩
theorem lw_p19 : lw_okq (⟨"TransferRingsModel", "takesNumber", "()V"⟩, 17) := ⟨⟨by decide +kernel, by decide +kernel⟩, List.mem_of_getElem? (i := 485) (by decide +kernel), List.mem_of_getElem? (i := 570) (by decide +kernel), List.mem_of_getElem? (i := 571) (by decide +kernel)⟩
theorem lw_p20 : lw_okq (⟨"TransferRingsModel", "readsItem", "(I)Z"⟩, 17) := ⟨⟨by decide +kernel, by decide +kernel⟩, List.mem_of_getElem? (i := 485) (by decide +kernel), List.mem_of_getElem? (i := 574) (by decide +kernel), List.mem_of_getElem? (i := 575) (by decide +kernel)⟩
theorem lw_p21 : lw_okq (⟨"TransferRingsModel", "readsLetter", "()Z"⟩, 17) := ⟨⟨by decide +kernel, by decide +kernel⟩, List.mem_of_getElem? (i := 485) (by decide +kernel), List.mem_of_getElem? (i := 578) (by decide +kernel), List.mem_of_getElem? (i := 579) (by decide +kernel)⟩
theorem lw_p22 : lw_okq (⟨"TransferRingsModel", "reads", "(III)Z"⟩, 17) := ⟨⟨by decide +kernel, by decide +kernel⟩, List.mem_of_getElem? (i := 485) (by decide +kernel), List.mem_of_getElem? (i := 582) (by decide +kernel), List.mem_of_getElem? (i := 583) (by decide +kernel)⟩
theorem lw_p23 : lw_okq (⟨"TransferRingsModel", "doesItem", "(I)Z"⟩, 17) := ⟨⟨by decide +kernel, by decide +kernel⟩, List.mem_of_getElem? (i := 485) (by decide +kernel), List.mem_of_getElem? (i := 586) (by decide +kernel), List.mem_of_getElem? (i := 587) (by decide +kernel)⟩
theorem lw_p24 : lw_okq (⟨"TransferRingsModel", "comes", "()Z"⟩, 17) := ⟨⟨by decide +kernel, by decide +kernel⟩, List.mem_of_getElem? (i := 485) (by decide +kernel), List.mem_of_getElem? (i := 590) (by decide +kernel), List.mem_of_getElem? (i := 591) (by decide +kernel)⟩
theorem lw_p25 : lw_okq (⟨"TransferRingsModel", "isEngines", "(I)Z"⟩, 17) := ⟨⟨by decide +kernel, by decide +kernel⟩, List.mem_of_getElem? (i := 485) (by decide +kernel), List.mem_of_getElem? (i := 600) (by decide +kernel), List.mem_of_getElem? (i := 601) (by decide +kernel)⟩
theorem lw_p26 : lw_okq (⟨"TransferRingsModel", "keepsSpare", "()V"⟩, 17) := ⟨⟨by decide +kernel, by decide +kernel⟩, List.mem_of_getElem? (i := 485) (by decide +kernel), List.mem_of_getElem? (i := 604) (by decide +kernel), List.mem_of_getElem? (i := 605) (by decide +kernel)⟩
theorem lw_p27 : lw_okq (⟨"TransferRingsModel", "takesBack", "()V"⟩, 17) := ⟨⟨by decide +kernel, by decide +kernel⟩, List.mem_of_getElem? (i := 485) (by decide +kernel), List.mem_of_getElem? (i := 608) (by decide +kernel), List.mem_of_getElem? (i := 609) (by decide +kernel)⟩
theorem lw_p28 : lw_okq (⟨"TransferRingsModel", "remembers", "()V"⟩, 17) := ⟨⟨by decide +kernel, by decide +kernel⟩, List.mem_of_getElem? (i := 485) (by decide +kernel), List.mem_of_getElem? (i := 612) (by decide +kernel), List.mem_of_getElem? (i := 613) (by decide +kernel)⟩
theorem lw_p29 : lw_okq (⟨"TransferRingsModel", "ticksOnce", "()I"⟩, 17) := ⟨⟨by decide +kernel, by decide +kernel⟩, List.mem_of_getElem? (i := 485) (by decide +kernel), List.mem_of_getElem? (i := 620) (by decide +kernel), List.mem_of_getElem? (i := 621) (by decide +kernel)⟩
theorem lw_p30 : lw_okq (⟨"TransferRingsModel", "writes", "(I)V"⟩, 17) := ⟨⟨by decide +kernel, by decide +kernel⟩, List.mem_of_getElem? (i := 485) (by decide +kernel), List.mem_of_getElem? (i := 624) (by decide +kernel), List.mem_of_getElem? (i := 625) (by decide +kernel)⟩
theorem lw_p31 : lw_okq (⟨"TransferRingsModel", "isReady", "(I)Z"⟩, 17) := ⟨⟨by decide +kernel, by decide +kernel⟩, List.mem_of_getElem? (i := 485) (by decide +kernel), List.mem_of_getElem? (i := 628) (by decide +kernel), List.mem_of_getElem? (i := 629) (by decide +kernel)⟩
def lw_privs_2 : List (MethodName × Nat) := [(⟨"TransferRingsModel", "goesThrough", "(Z)Z"⟩, 17), (⟨"TransferRingsModel", "takes", "()V"⟩, 17), (⟨"TransferRingsModel", "isFigure", "(I)Z"⟩, 17), (⟨"TransferRingsModel", "takesNumber", "()V"⟩, 17), (⟨"TransferRingsModel", "readsItem", "(I)Z"⟩, 17), (⟨"TransferRingsModel", "readsLetter", "()Z"⟩, 17), (⟨"TransferRingsModel", "reads", "(III)Z"⟩, 17), (⟨"TransferRingsModel", "doesItem", "(I)Z"⟩, 17), (⟨"TransferRingsModel", "comes", "()Z"⟩, 17), (⟨"TransferRingsModel", "isEngines", "(I)Z"⟩, 17), (⟨"TransferRingsModel", "keepsSpare", "()V"⟩, 17), (⟨"TransferRingsModel", "takesBack", "()V"⟩, 17), (⟨"TransferRingsModel", "remembers", "()V"⟩, 17), (⟨"TransferRingsModel", "ticksOnce", "()I"⟩, 17), (⟨"TransferRingsModel", "writes", "(I)V"⟩, 17), (⟨"TransferRingsModel", "isReady", "(I)Z"⟩, 17)]
theorem lw_r2 : ∀ q ∈ lw_privs_2, lw_okq q := List.forall_mem_cons.mpr ⟨lw_p16, List.forall_mem_cons.mpr ⟨lw_p17, List.forall_mem_cons.mpr ⟨lw_p18, List.forall_mem_cons.mpr ⟨lw_p19, List.forall_mem_cons.mpr ⟨lw_p20, List.forall_mem_cons.mpr ⟨lw_p21, List.forall_mem_cons.mpr ⟨lw_p22, List.forall_mem_cons.mpr ⟨lw_p23, List.forall_mem_cons.mpr ⟨lw_p24, List.forall_mem_cons.mpr ⟨lw_p25, List.forall_mem_cons.mpr ⟨lw_p26, List.forall_mem_cons.mpr ⟨lw_p27, List.forall_mem_cons.mpr ⟨lw_p28, List.forall_mem_cons.mpr ⟨lw_p29, List.forall_mem_cons.mpr ⟨lw_p30, List.forall_mem_cons.mpr ⟨lw_p31, fun _ h => absurd h List.not_mem_nil⟩⟩⟩⟩⟩⟩⟩⟩⟩⟩⟩⟩⟩⟩⟩⟩
theorem lw_p32 : lw_okq (⟨"TransferRingsModel", "present", "(I)I"⟩, 17) := ⟨⟨by decide +kernel, by decide +kernel⟩, List.mem_of_getElem? (i := 485) (by decide +kernel), List.mem_of_getElem? (i := 632) (by decide +kernel), List.mem_of_getElem? (i := 633) (by decide +kernel)⟩
theorem lw_p33 : lw_okq (⟨"TransferRingsModel", "carries", "(I)V"⟩, 17) := ⟨⟨by decide +kernel, by decide +kernel⟩, List.mem_of_getElem? (i := 485) (by decide +kernel), List.mem_of_getElem? (i := 636) (by decide +kernel), List.mem_of_getElem? (i := 637) (by decide +kernel)⟩
theorem lw_p34 : lw_okq (⟨"TransferRingsModel", "unitsOf", "(I)I"⟩, 17) := ⟨⟨by decide +kernel, by decide +kernel⟩, List.mem_of_getElem? (i := 485) (by decide +kernel), List.mem_of_getElem? (i := 640) (by decide +kernel), List.mem_of_getElem? (i := 641) (by decide +kernel)⟩
theorem lw_p35 : lw_okq (⟨"TransferRingsModel", "addressOf", "(III)I"⟩, 17) := ⟨⟨by decide +kernel, by decide +kernel⟩, List.mem_of_getElem? (i := 485) (by decide +kernel), List.mem_of_getElem? (i := 644) (by decide +kernel), List.mem_of_getElem? (i := 645) (by decide +kernel)⟩
theorem lw_p36 : lw_okq (⟨"TransferRingsModel", "writesAll", "(I)V"⟩, 17) := ⟨⟨by decide +kernel, by decide +kernel⟩, List.mem_of_getElem? (i := 485) (by decide +kernel), List.mem_of_getElem? (i := 658) (by decide +kernel), List.mem_of_getElem? (i := 659) (by decide +kernel)⟩
theorem lw_p37 : lw_okq (⟨"TransferRingsModel", "writesOf", "(I)J"⟩, 17) := ⟨⟨by decide +kernel, by decide +kernel⟩, List.mem_of_getElem? (i := 485) (by decide +kernel), List.mem_of_getElem? (i := 701) (by decide +kernel), List.mem_of_getElem? (i := 702) (by decide +kernel)⟩
theorem lw_p38 : lw_okq (⟨"TransferRingsModel", "overOf", "(I)I"⟩, 17) := ⟨⟨by decide +kernel, by decide +kernel⟩, List.mem_of_getElem? (i := 485) (by decide +kernel), List.mem_of_getElem? (i := 709) (by decide +kernel), List.mem_of_getElem? (i := 710) (by decide +kernel)⟩
theorem lw_p39 : lw_okq (⟨"TransferRingsModel", "hasEngines", "(I)Z"⟩, 17) := ⟨⟨by decide +kernel, by decide +kernel⟩, List.mem_of_getElem? (i := 485) (by decide +kernel), List.mem_of_getElem? (i := 713) (by decide +kernel), List.mem_of_getElem? (i := 714) (by decide +kernel)⟩
theorem lw_p40 : lw_okq (⟨"TransferRingsModel", "isSeen", "()Z"⟩, 17) := ⟨⟨by decide +kernel, by decide +kernel⟩, List.mem_of_getElem? (i := 485) (by decide +kernel), List.mem_of_getElem? (i := 741) (by decide +kernel), List.mem_of_getElem? (i := 742) (by decide +kernel)⟩
theorem lw_p41 : lw_okq (⟨"TransferRingsModel", "engines", "()I"⟩, 17) := ⟨⟨by decide +kernel, by decide +kernel⟩, List.mem_of_getElem? (i := 485) (by decide +kernel), List.mem_of_getElem? (i := 749) (by decide +kernel), List.mem_of_getElem? (i := 750) (by decide +kernel)⟩
def lw_privs_3 : List (MethodName × Nat) := [(⟨"TransferRingsModel", "present", "(I)I"⟩, 17), (⟨"TransferRingsModel", "carries", "(I)V"⟩, 17), (⟨"TransferRingsModel", "unitsOf", "(I)I"⟩, 17), (⟨"TransferRingsModel", "addressOf", "(III)I"⟩, 17), (⟨"TransferRingsModel", "writesAll", "(I)V"⟩, 17), (⟨"TransferRingsModel", "writesOf", "(I)J"⟩, 17), (⟨"TransferRingsModel", "overOf", "(I)I"⟩, 17), (⟨"TransferRingsModel", "hasEngines", "(I)Z"⟩, 17), (⟨"TransferRingsModel", "isSeen", "()Z"⟩, 17), (⟨"TransferRingsModel", "engines", "()I"⟩, 17)]
theorem lw_r3 : ∀ q ∈ lw_privs_3, lw_okq q := List.forall_mem_cons.mpr ⟨lw_p32, List.forall_mem_cons.mpr ⟨lw_p33, List.forall_mem_cons.mpr ⟨lw_p34, List.forall_mem_cons.mpr ⟨lw_p35, List.forall_mem_cons.mpr ⟨lw_p36, List.forall_mem_cons.mpr ⟨lw_p37, List.forall_mem_cons.mpr ⟨lw_p38, List.forall_mem_cons.mpr ⟨lw_p39, List.forall_mem_cons.mpr ⟨lw_p40, List.forall_mem_cons.mpr ⟨lw_p41, fun _ h => absurd h List.not_mem_nil⟩⟩⟩⟩⟩⟩⟩⟩⟩⟩
def lw_privs : List (MethodName × Nat) := lw_privs_1 ++ (lw_privs_2 ++ (lw_privs_3))
def lw_tbl : List Cond := k2_sels lw_privs ++ tables_1
theorem lw_privs_ok : ∀ q ∈ lw_privs, lw_okq q := by
  show ∀ q ∈ lw_privs_1 ++ (lw_privs_2 ++ (lw_privs_3)), lw_okq q
  exact List.forall_mem_append.mpr ⟨lw_r1, List.forall_mem_append.mpr ⟨lw_r2, lw_r3⟩⟩
end
section
def RX0 : String := "TransferRings$Engine"
def TX0 : u_T := fun k => match k with
  | 0 => ("TransferRings$Engine", "memory", "[I", true)
  | 1 => ("TransferRings$Engine", "channels", "[I", true)
  | 2 => ("TransferRings$Engine", "letters", "[I", true)
  | 3 => ("TransferRings$Engine", "queue", "[I", true)
  | 4 => ("TransferRings$Engine", "queued", "I", false)
  | 5 => ("TransferRings$Engine", "lastGranted", "I", false)
  | _ => ("TransferRings$Engine", "ticksGone", "I", false)
def tyX0 : Nat → FieldType := fun k => match k with
  | 0 => .array .int
  | 1 => .array .int
  | 2 => .array .int
  | 3 => .array .int
  | 4 => .int
  | 5 => .int
  | _ => .int
theorem nmX0 : ∀ a, a < 7 → ∀ b, b < 7 → a ≠ b → (TX0 a).2.1 ≠ (TX0 b).2.1 := by decide +kernel
theorem tyX0_ok : ∀ k, k < 7 → parseFieldDescriptor (TX0 k).2.2.1 = some (tyX0 k) := by decide +kernel
abbrev cX0_init : ByteArray := prog_2_method_1_code
def yX0_init : MethodName := ⟨RX0, "<init>", "()V"⟩
abbrev cX0_copyFrom : ByteArray := prog_2_method_2_code
def yX0_copyFrom : MethodName := ⟨RX0, "copyFrom", "(LTransferRings$Engine;)V"⟩
abbrev cX0_placeOf : ByteArray := prog_2_method_3_code
def yX0_placeOf : MethodName := ⟨RX0, "placeOf", "(II)I"⟩
abbrev cX0_slotBehind : ByteArray := prog_2_method_4_code
def yX0_slotBehind : MethodName := ⟨RX0, "slotBehind", "(I)I"⟩
abbrev cX0_ofChannel : ByteArray := prog_2_method_5_code
def yX0_ofChannel : MethodName := ⟨RX0, "ofChannel", "(II)I"⟩
abbrev cX0_setChannel : ByteArray := prog_2_method_6_code
def yX0_setChannel : MethodName := ⟨RX0, "setChannel", "(III)V"⟩
abbrev cX0_addOneTo : ByteArray := prog_2_method_7_code
def yX0_addOneTo : MethodName := ⟨RX0, "addOneTo", "(II)V"⟩
abbrev cX0_ofLetter : ByteArray := prog_2_method_8_code
def yX0_ofLetter : MethodName := ⟨RX0, "ofLetter", "(II)I"⟩
abbrev cX0_setLetter : ByteArray := prog_2_method_9_code
def yX0_setLetter : MethodName := ⟨RX0, "setLetter", "(III)V"⟩
abbrev cX0_hasLetter : ByteArray := prog_2_method_10_code
def yX0_hasLetter : MethodName := ⟨RX0, "hasLetter", "(I)Z"⟩
abbrev cX0_isEngines : ByteArray := prog_2_method_11_code
def yX0_isEngines : MethodName := ⟨RX0, "isEngines", "(I)Z"⟩
abbrev cX0_isToCarry : ByteArray := prog_2_method_12_code
def yX0_isToCarry : MethodName := ⟨RX0, "isToCarry", "(I)Z"⟩
abbrev cX0_unitsOf : ByteArray := prog_2_method_13_code
def yX0_unitsOf : MethodName := ⟨RX0, "unitsOf", "(I)I"⟩
abbrev cX0_addressOf : ByteArray := prog_2_method_14_code
def yX0_addressOf : MethodName := ⟨RX0, "addressOf", "(III)I"⟩
abbrev cX0_writtenBy : ByteArray := prog_2_method_15_code
def yX0_writtenBy : MethodName := ⟨RX0, "writtenBy", "(I)J"⟩
abbrev cX0_unitsBoundFor : ByteArray := prog_2_method_16_code
def yX0_unitsBoundFor : MethodName := ⟨RX0, "unitsBoundFor", "(I)I"⟩
abbrev cX0_uncarriedBoundFor : ByteArray := prog_2_method_17_code
def yX0_uncarriedBoundFor : MethodName := ⟨RX0, "uncarriedBoundFor", "(II)I"⟩
abbrev cX0_engineLettersOf : ByteArray := prog_2_method_18_code
def yX0_engineLettersOf : MethodName := ⟨RX0, "engineLettersOf", "(I)I"⟩
abbrev cX0_engineLetters : ByteArray := prog_2_method_19_code
def yX0_engineLetters : MethodName := ⟨RX0, "engineLetters", "()I"⟩
abbrev cX0_presentOf : ByteArray := prog_2_method_20_code
def yX0_presentOf : MethodName := ⟨RX0, "presentOf", "(I)I"⟩
abbrev cX0_isReady : ByteArray := prog_2_method_21_code
def yX0_isReady : MethodName := ⟨RX0, "isReady", "(I)Z"⟩
abbrev cX0_take : ByteArray := prog_2_method_22_code
def yX0_take : MethodName := ⟨RX0, "take", "(LTransferRings$Text;I)Z"⟩
abbrev cX0_post : ByteArray := prog_2_method_23_code
def yX0_post : MethodName := ⟨RX0, "post", "(ILTransferRings$Text;I)Z"⟩
abbrev cX0_tick : ByteArray := prog_2_method_24_code
def yX0_tick : MethodName := ⟨RX0, "tick", "(Z)I"⟩
abbrev cX0_writeBack : ByteArray := prog_2_method_25_code
def yX0_writeBack : MethodName := ⟨RX0, "writeBack", "(I)V"⟩
abbrev cX0_nextToGrant : ByteArray := prog_2_method_26_code
def yX0_nextToGrant : MethodName := ⟨RX0, "nextToGrant", "()I"⟩
abbrev cX0_grant : ByteArray := prog_2_method_27_code
def yX0_grant : MethodName := ⟨RX0, "grant", "(IZ)V"⟩
abbrev cX0_carry : ByteArray := prog_2_method_28_code
def yX0_carry : MethodName := ⟨RX0, "carry", "(III)V"⟩
abbrev cX0_letWait : ByteArray := prog_2_method_29_code
def yX0_letWait : MethodName := ⟨RX0, "letWait", "(II)V"⟩
abbrev cX0_cancel : ByteArray := prog_2_method_30_code
def yX0_cancel : MethodName := ⟨RX0, "cancel", "(I)I"⟩
abbrev cX0_writeBackAllOf : ByteArray := prog_2_method_31_code
def yX0_writeBackAllOf : MethodName := ⟨RX0, "writeBackAllOf", "(I)V"⟩
def RX1 : String := "TransferRings$History"
def TX1 : u_T := fun k => match k with
  | 0 => ("TransferRings$History", "past", "[LTransferRings$Engine;", true)
  | 1 => ("TransferRings$History", "newest", "I", false)
  | _ => ("TransferRings$History", "known", "I", false)
def tyX1 : Nat → FieldType := fun k => match k with
  | 0 => .array (.object "TransferRings$Engine")
  | 1 => .int
  | _ => .int
theorem nmX1 : ∀ a, a < 3 → ∀ b, b < 3 → a ≠ b → (TX1 a).2.1 ≠ (TX1 b).2.1 := by decide +kernel
theorem tyX1_ok : ∀ k, k < 3 → parseFieldDescriptor (TX1 k).2.2.1 = some (tyX1 k) := by decide +kernel
abbrev cX1_init : ByteArray := prog_3_method_1_code
def yX1_init : MethodName := ⟨RX1, "<init>", "()V"⟩
abbrev cX1_remember : ByteArray := prog_3_method_2_code
def yX1_remember : MethodName := ⟨RX1, "remember", "(LTransferRings$Engine;)V"⟩
abbrev cX1_restore : ByteArray := prog_3_method_3_code
def yX1_restore : MethodName := ⟨RX1, "restore", "(LTransferRings$Engine;)Z"⟩
abbrev cX1_lose : ByteArray := prog_3_method_4_code
def yX1_lose : MethodName := ⟨RX1, "lose", "()V"⟩
def RX2 : String := "TransferRings$Sightings"
def TX2 : u_T := fun k => match k with
  | 0 => ("TransferRings$Sightings", "inTick", "[I", true)
  | 1 => ("TransferRings$Sightings", "who", "[I", true)
  | _ => ("TransferRings$Sightings", "seen", "I", false)
def tyX2 : Nat → FieldType := fun k => match k with
  | 0 => .array .int
  | 1 => .array .int
  | _ => .int
theorem nmX2 : ∀ a, a < 3 → ∀ b, b < 3 → a ≠ b → (TX2 a).2.1 ≠ (TX2 b).2.1 := by decide +kernel
theorem tyX2_ok : ∀ k, k < 3 → parseFieldDescriptor (TX2 k).2.2.1 = some (tyX2 k) := by decide +kernel
abbrev cX2_init : ByteArray := prog_4_method_1_code
def yX2_init : MethodName := ⟨RX2, "<init>", "()V"⟩
abbrev cX2_note : ByteArray := prog_4_method_2_code
def yX2_note : MethodName := ⟨RX2, "note", "(II)Z"⟩
abbrev cX2_drop : ByteArray := prog_4_method_3_code
def yX2_drop : MethodName := ⟨RX2, "drop", "()V"⟩
abbrev cX2_comeTrue : ByteArray := prog_4_method_4_code
def yX2_comeTrue : MethodName := ⟨RX2, "comeTrue", "(LTransferRings$Engine;)Z"⟩
abbrev cX2_lastTick : ByteArray := prog_4_method_5_code
def yX2_lastTick : MethodName := ⟨RX2, "lastTick", "()I"⟩
abbrev cX2_allowsInTick : ByteArray := prog_4_method_6_code
def yX2_allowsInTick : MethodName := ⟨RX2, "allowsInTick", "(II)Z"⟩
def RX3 : String := "TransferRings$Text"
def TX3 : u_T := fun k => match k with
  | 0 => ("TransferRings$Text", "signs", "[I", true)
  | 1 => ("TransferRings$Text", "kinds", "[I", true)
  | 2 => ("TransferRings$Text", "numbers", "[I", true)
  | 3 => ("TransferRings$Text", "place", "I", false)
  | 4 => ("TransferRings$Text", "length", "I", false)
  | _ => ("TransferRings$Text", "itemCount", "I", false)
def tyX3 : Nat → FieldType := fun k => match k with
  | 0 => .array .int
  | 1 => .array .int
  | 2 => .array .int
  | 3 => .int
  | 4 => .int
  | _ => .int
theorem nmX3 : ∀ a, a < 6 → ∀ b, b < 6 → a ≠ b → (TX3 a).2.1 ≠ (TX3 b).2.1 := by decide +kernel
theorem tyX3_ok : ∀ k, k < 6 → parseFieldDescriptor (TX3 k).2.2.1 = some (tyX3 k) := by decide +kernel
abbrev cX3_init : ByteArray := prog_5_method_1_code
def yX3_init : MethodName := ⟨RX3, "<init>", "()V"⟩
abbrev cX3_append : ByteArray := prog_5_method_2_code
def yX3_append : MethodName := ⟨RX3, "append", "(I)Z"⟩
abbrev cX3_wipe : ByteArray := prog_5_method_3_code
def yX3_wipe : MethodName := ⟨RX3, "wipe", "()V"⟩
abbrev cX3_kind : ByteArray := prog_5_method_4_code
def yX3_kind : MethodName := ⟨RX3, "kind", "(I)I"⟩
abbrev cX3_number : ByteArray := prog_5_method_5_code
def yX3_number : MethodName := ⟨RX3, "number", "(II)I"⟩
abbrev cX3_read : ByteArray := prog_5_method_6_code
def yX3_read : MethodName := ⟨RX3, "read", "()I"⟩
abbrev cX3_readItem : ByteArray := prog_5_method_7_code
def yX3_readItem : MethodName := ⟨RX3, "readItem", "()Z"⟩
abbrev cX3_readForm : ByteArray := prog_5_method_8_code
def yX3_readForm : MethodName := ⟨RX3, "readForm", "(I[I[I)Z"⟩
abbrev cX3_readNumber : ByteArray := prog_5_method_9_code
def yX3_readNumber : MethodName := ⟨RX3, "readNumber", "(III)Z"⟩
abbrev cX3_isFigure : ByteArray := prog_5_method_10_code
def yX3_isFigure : MethodName := ⟨RX3, "isFigure", "(I)Z"⟩
abbrev cX3_skipBlanks : ByteArray := prog_5_method_11_code
def yX3_skipBlanks : MethodName := ⟨RX3, "skipBlanks", "()V"⟩
def RX4 : String := "TransferRings"
def TX4 : u_T := fun k => match k with
  | 0 => ("TransferRings", "text", "LTransferRings$Text;", true)
  | 1 => ("TransferRings", "now", "LTransferRings$Engine;", true)
  | 2 => ("TransferRings", "trial", "LTransferRings$Engine;", true)
  | 3 => ("TransferRings", "history", "LTransferRings$History;", true)
  | 4 => ("TransferRings", "sightings", "LTransferRings$Sightings;", true)
  | 5 => ("TransferRings", "images", "[LTransferRings$Engine;", true)
  | _ => ("TransferRings", "imageKept", "[Z", true)
def tyX4 : Nat → FieldType := fun k => match k with
  | 0 => .object "TransferRings$Text"
  | 1 => .object "TransferRings$Engine"
  | 2 => .object "TransferRings$Engine"
  | 3 => .object "TransferRings$History"
  | 4 => .object "TransferRings$Sightings"
  | 5 => .array (.object "TransferRings$Engine")
  | _ => .array .boolean
theorem nmX4 : ∀ a, a < 7 → ∀ b, b < 7 → a ≠ b → (TX4 a).2.1 ≠ (TX4 b).2.1 := by decide +kernel
theorem tyX4_ok : ∀ k, k < 7 → parseFieldDescriptor (TX4 k).2.2.1 = some (tyX4 k) := by decide +kernel
abbrev cX4_init : ByteArray := prog_1_method_1_code
def yX4_init : MethodName := ⟨RX4, "<init>", "()V"⟩
abbrev cX4_type : ByteArray := prog_1_method_2_code
def yX4_type : MethodName := ⟨RX4, "type", "(I)I"⟩
abbrev cX4_clear : ByteArray := prog_1_method_3_code
def yX4_clear : MethodName := ⟨RX4, "clear", "()I"⟩
abbrev cX4_posts : ByteArray := prog_1_method_4_code
def yX4_posts : MethodName := ⟨RX4, "posts", "()I"⟩
abbrev cX4_ticks : ByteArray := prog_1_method_5_code
def yX4_ticks : MethodName := ⟨RX4, "ticks", "(I)I"⟩
abbrev cX4_cancels : ByteArray := prog_1_method_6_code
def yX4_cancels : MethodName := ⟨RX4, "cancels", "(I)I"⟩
abbrev cX4_switches : ByteArray := prog_1_method_7_code
def yX4_switches : MethodName := ⟨RX4, "switches", "(I)I"⟩
abbrev cX4_tunes : ByteArray := prog_1_method_8_code
def yX4_tunes : MethodName := ⟨RX4, "tunes", "(III)I"⟩
abbrev cX4_undo : ByteArray := prog_1_method_9_code
def yX4_undo : MethodName := ⟨RX4, "undo", "()I"⟩
abbrev cX4_at : ByteArray := prog_1_method_10_code
def yX4_at : MethodName := ⟨RX4, "at", "(I)I"⟩
abbrev cX4_channel : ByteArray := prog_1_method_11_code
def yX4_channel : MethodName := ⟨RX4, "channel", "(II)I"⟩
abbrev cX4_slot : ByteArray := prog_1_method_12_code
def yX4_slot : MethodName := ⟨RX4, "slot", "(III)I"⟩
abbrev cX4_unit : ByteArray := prog_1_method_13_code
def yX4_unit : MethodName := ⟨RX4, "unit", "(IIII)I"⟩
abbrev cX4_waiting : ByteArray := prog_1_method_14_code
def yX4_waiting : MethodName := ⟨RX4, "waiting", "(I)I"⟩
abbrev cX4_both : ByteArray := prog_1_method_15_code
def yX4_both : MethodName := ⟨RX4, "both", "(IIII)I"⟩
abbrev cX4_over : ByteArray := prog_1_method_16_code
def yX4_over : MethodName := ⟨RX4, "over", "(I)I"⟩
abbrev cX4_lands : ByteArray := prog_1_method_17_code
def yX4_lands : MethodName := ⟨RX4, "lands", "(I)I"⟩
abbrev cX4_enough : ByteArray := prog_1_method_18_code
def yX4_enough : MethodName := ⟨RX4, "enough", "(II)I"⟩
abbrev cX4_granted : ByteArray := prog_1_method_19_code
def yX4_granted : MethodName := ⟨RX4, "granted", "(I)I"⟩
abbrev cX4_sees : ByteArray := prog_1_method_20_code
def yX4_sees : MethodName := ⟨RX4, "sees", "(II)I"⟩
abbrev cX4_forget : ByteArray := prog_1_method_21_code
def yX4_forget : MethodName := ⟨RX4, "forget", "()I"⟩
abbrev cX4_ranks : ByteArray := prog_1_method_22_code
def yX4_ranks : MethodName := ⟨RX4, "ranks", "(I)I"⟩
abbrev cX4_keep : ByteArray := prog_1_method_23_code
def yX4_keep : MethodName := ⟨RX4, "keep", "(I)I"⟩
abbrev cX4_back : ByteArray := prog_1_method_24_code
def yX4_back : MethodName := ⟨RX4, "back", "(I)I"⟩
abbrev cX4_count : ByteArray := prog_1_method_25_code
def yX4_count : MethodName := ⟨RX4, "count", "(I)I"⟩
abbrev cX4_within : ByteArray := prog_1_method_26_code
def yX4_within : MethodName := ⟨RX4, "within", "(III)Z"⟩
abbrev cX4_isChannel : ByteArray := prog_1_method_27_code
def yX4_isChannel : MethodName := ⟨RX4, "isChannel", "(I)Z"⟩
abbrev cX4_isSlot : ByteArray := prog_1_method_28_code
def yX4_isSlot : MethodName := ⟨RX4, "isSlot", "(II)Z"⟩
abbrev cX4_presentResidue : ByteArray := prog_1_method_29_code
def yX4_presentResidue : MethodName := ⟨RX4, "presentResidue", "(I)I"⟩
abbrev cX4_ticksUntilOver : ByteArray := prog_1_method_30_code
def yX4_ticksUntilOver : MethodName := ⟨RX4, "ticksUntilOver", "(II)I"⟩
def RX5 : String := "TransferRingsModel"
def TX5 : u_T := fun k => match k with
  | 0 => ("TransferRingsModel", "s", "[I", true)
  | 1 => ("TransferRingsModel", "undos", "I", false)
  | 2 => ("TransferRingsModel", "past", "[I", true)
  | 3 => ("TransferRingsModel", "isKept", "[Z", true)
  | 4 => ("TransferRingsModel", "kept", "[I", true)
  | 5 => ("TransferRingsModel", "spare", "[I", true)
  | 6 => ("TransferRingsModel", "seen", "I", false)
  | 7 => ("TransferRingsModel", "seenTick", "[I", true)
  | 8 => ("TransferRingsModel", "seenWho", "[I", true)
  | 9 => ("TransferRingsModel", "letters", "I", false)
  | 10 => ("TransferRingsModel", "text", "[I", true)
  | 11 => ("TransferRingsModel", "next", "I", false)
  | 12 => ("TransferRingsModel", "place", "I", false)
  | 13 => ("TransferRingsModel", "token", "I", false)
  | 14 => ("TransferRingsModel", "value", "I", false)
  | 15 => ("TransferRingsModel", "read", "[I", true)
  | _ => ("TransferRingsModel", "items", "I", false)
def tyX5 : Nat → FieldType := fun k => match k with
  | 0 => .array .int
  | 1 => .int
  | 2 => .array .int
  | 3 => .array .boolean
  | 4 => .array .int
  | 5 => .array .int
  | 6 => .int
  | 7 => .array .int
  | 8 => .array .int
  | 9 => .int
  | 10 => .array .int
  | 11 => .int
  | 12 => .int
  | 13 => .int
  | 14 => .int
  | 15 => .array .int
  | _ => .int
theorem nmX5 : ∀ a, a < 17 → ∀ b, b < 17 → a ≠ b → (TX5 a).2.1 ≠ (TX5 b).2.1 := by decide +kernel
theorem tyX5_ok : ∀ k, k < 17 → parseFieldDescriptor (TX5 k).2.2.1 = some (tyX5 k) := by decide +kernel
abbrev cX5_in : ByteArray := prog_7_method_1_code
def yX5_in : MethodName := ⟨RX5, "in", "(III)Z"⟩
abbrev cX5_init : ByteArray := prog_7_method_2_code
def yX5_init : MethodName := ⟨RX5, "<init>", "()V"⟩
abbrev cX5_type : ByteArray := prog_7_method_3_code
def yX5_type : MethodName := ⟨RX5, "type", "(I)I"⟩
abbrev cX5_clear : ByteArray := prog_7_method_4_code
def yX5_clear : MethodName := ⟨RX5, "clear", "()I"⟩
abbrev cX5_isFigure : ByteArray := prog_7_method_5_code
def yX5_isFigure : MethodName := ⟨RX5, "isFigure", "(I)Z"⟩
abbrev cX5_takesNumber : ByteArray := prog_7_method_6_code
def yX5_takesNumber : MethodName := ⟨RX5, "takesNumber", "()V"⟩
abbrev cX5_takes : ByteArray := prog_7_method_7_code
def yX5_takes : MethodName := ⟨RX5, "takes", "()V"⟩
abbrev cX5_reads : ByteArray := prog_7_method_8_code
def yX5_reads : MethodName := ⟨RX5, "reads", "(III)Z"⟩
abbrev cX5_readsLetter : ByteArray := prog_7_method_9_code
def yX5_readsLetter : MethodName := ⟨RX5, "readsLetter", "()Z"⟩
abbrev cX5_readsItem : ByteArray := prog_7_method_10_code
def yX5_readsItem : MethodName := ⟨RX5, "readsItem", "(I)Z"⟩
abbrev cX5_slotAt : ByteArray := prog_7_method_11_code
def yX5_slotAt : MethodName := ⟨RX5, "slotAt", "(II)I"⟩
abbrev cX5_channelAt : ByteArray := prog_7_method_12_code
def yX5_channelAt : MethodName := ⟨RX5, "channelAt", "(I)I"⟩
abbrev cX5_isEngines : ByteArray := prog_7_method_13_code
def yX5_isEngines : MethodName := ⟨RX5, "isEngines", "(I)Z"⟩
abbrev cX5_comes : ByteArray := prog_7_method_14_code
def yX5_comes : MethodName := ⟨RX5, "comes", "()Z"⟩
abbrev cX5_doesItem : ByteArray := prog_7_method_15_code
def yX5_doesItem : MethodName := ⟨RX5, "doesItem", "(I)Z"⟩
abbrev cX5_goesThrough : ByteArray := prog_7_method_16_code
def yX5_goesThrough : MethodName := ⟨RX5, "goesThrough", "(Z)Z"⟩
abbrev cX5_keepsSpare : ByteArray := prog_7_method_17_code
def yX5_keepsSpare : MethodName := ⟨RX5, "keepsSpare", "()V"⟩
abbrev cX5_takesBack : ByteArray := prog_7_method_18_code
def yX5_takesBack : MethodName := ⟨RX5, "takesBack", "()V"⟩
abbrev cX5_remembers : ByteArray := prog_7_method_19_code
def yX5_remembers : MethodName := ⟨RX5, "remembers", "()V"⟩
abbrev cX5_posts : ByteArray := prog_7_method_20_code
def yX5_posts : MethodName := ⟨RX5, "posts", "()I"⟩
abbrev cX5_present : ByteArray := prog_7_method_21_code
def yX5_present : MethodName := ⟨RX5, "present", "(I)I"⟩
abbrev cX5_isReady : ByteArray := prog_7_method_22_code
def yX5_isReady : MethodName := ⟨RX5, "isReady", "(I)Z"⟩
abbrev cX5_writes : ByteArray := prog_7_method_23_code
def yX5_writes : MethodName := ⟨RX5, "writes", "(I)V"⟩
abbrev cX5_around : ByteArray := prog_7_method_24_code
def yX5_around : MethodName := ⟨RX5, "around", "(I)I"⟩
abbrev cX5_addressOf : ByteArray := prog_7_method_25_code
def yX5_addressOf : MethodName := ⟨RX5, "addressOf", "(III)I"⟩
abbrev cX5_unitsOf : ByteArray := prog_7_method_26_code
def yX5_unitsOf : MethodName := ⟨RX5, "unitsOf", "(I)I"⟩
abbrev cX5_carries : ByteArray := prog_7_method_27_code
def yX5_carries : MethodName := ⟨RX5, "carries", "(I)V"⟩
abbrev cX5_ticksOnce : ByteArray := prog_7_method_28_code
def yX5_ticksOnce : MethodName := ⟨RX5, "ticksOnce", "()I"⟩
abbrev cX5_ticks : ByteArray := prog_7_method_29_code
def yX5_ticks : MethodName := ⟨RX5, "ticks", "(I)I"⟩
abbrev cX5_isChannel : ByteArray := prog_7_method_30_code
def yX5_isChannel : MethodName := ⟨RX5, "isChannel", "(I)Z"⟩
abbrev cX5_writesAll : ByteArray := prog_7_method_31_code
def yX5_writesAll : MethodName := ⟨RX5, "writesAll", "(I)V"⟩
abbrev cX5_cancels : ByteArray := prog_7_method_32_code
def yX5_cancels : MethodName := ⟨RX5, "cancels", "(I)I"⟩
abbrev cX5_switches : ByteArray := prog_7_method_33_code
def yX5_switches : MethodName := ⟨RX5, "switches", "(I)I"⟩
abbrev cX5_tunes : ByteArray := prog_7_method_34_code
def yX5_tunes : MethodName := ⟨RX5, "tunes", "(III)I"⟩
abbrev cX5_undo : ByteArray := prog_7_method_35_code
def yX5_undo : MethodName := ⟨RX5, "undo", "()I"⟩
abbrev cX5_at : ByteArray := prog_7_method_36_code
def yX5_at : MethodName := ⟨RX5, "at", "(I)I"⟩
abbrev cX5_channel : ByteArray := prog_7_method_37_code
def yX5_channel : MethodName := ⟨RX5, "channel", "(II)I"⟩
abbrev cX5_isSlot : ByteArray := prog_7_method_38_code
def yX5_isSlot : MethodName := ⟨RX5, "isSlot", "(II)Z"⟩
abbrev cX5_slot : ByteArray := prog_7_method_39_code
def yX5_slot : MethodName := ⟨RX5, "slot", "(III)I"⟩
abbrev cX5_unit : ByteArray := prog_7_method_40_code
def yX5_unit : MethodName := ⟨RX5, "unit", "(IIII)I"⟩
abbrev cX5_waiting : ByteArray := prog_7_method_41_code
def yX5_waiting : MethodName := ⟨RX5, "waiting", "(I)I"⟩
abbrev cX5_writesOf : ByteArray := prog_7_method_42_code
def yX5_writesOf : MethodName := ⟨RX5, "writesOf", "(I)J"⟩
abbrev cX5_both : ByteArray := prog_7_method_43_code
def yX5_both : MethodName := ⟨RX5, "both", "(IIII)I"⟩
abbrev cX5_hasEngines : ByteArray := prog_7_method_44_code
def yX5_hasEngines : MethodName := ⟨RX5, "hasEngines", "(I)Z"⟩
abbrev cX5_overOf : ByteArray := prog_7_method_45_code
def yX5_overOf : MethodName := ⟨RX5, "overOf", "(I)I"⟩
abbrev cX5_over : ByteArray := prog_7_method_46_code
def yX5_over : MethodName := ⟨RX5, "over", "(I)I"⟩
abbrev cX5_lands : ByteArray := prog_7_method_47_code
def yX5_lands : MethodName := ⟨RX5, "lands", "(I)I"⟩
abbrev cX5_enough : ByteArray := prog_7_method_48_code
def yX5_enough : MethodName := ⟨RX5, "enough", "(II)I"⟩
abbrev cX5_granted : ByteArray := prog_7_method_49_code
def yX5_granted : MethodName := ⟨RX5, "granted", "(I)I"⟩
abbrev cX5_sees : ByteArray := prog_7_method_50_code
def yX5_sees : MethodName := ⟨RX5, "sees", "(II)I"⟩
abbrev cX5_forget : ByteArray := prog_7_method_51_code
def yX5_forget : MethodName := ⟨RX5, "forget", "()I"⟩
abbrev cX5_isSeen : ByteArray := prog_7_method_52_code
def yX5_isSeen : MethodName := ⟨RX5, "isSeen", "()Z"⟩
abbrev cX5_ranks : ByteArray := prog_7_method_53_code
def yX5_ranks : MethodName := ⟨RX5, "ranks", "(I)I"⟩
abbrev cX5_engines : ByteArray := prog_7_method_54_code
def yX5_engines : MethodName := ⟨RX5, "engines", "()I"⟩
abbrev cX5_keep : ByteArray := prog_7_method_55_code
def yX5_keep : MethodName := ⟨RX5, "keep", "(I)I"⟩
abbrev cX5_back : ByteArray := prog_7_method_56_code
def yX5_back : MethodName := ⟨RX5, "back", "(I)I"⟩
abbrev cX5_count : ByteArray := prog_7_method_57_code
def yX5_count : MethodName := ⟨RX5, "count", "(I)I"⟩
def RJ13 : String := "java/lang/Long"
def TJ13 : u_T := fun k => match k with
  | _ => ("", "", "", false)
def tyJ13 : Nat → FieldType := fun k => match k with
  | _ => .int
abbrev cJ13_bitCount_95d88 : ByteArray := prog_8_method_50_code
def yJ13_bitCount_95d88 : MethodName := ⟨RJ13, "bitCount", "(J)I"⟩
def RJ9 : String := "java/lang/Math"
def TJ9 : u_T := fun k => match k with
  | _ => ("", "", "", false)
def tyJ9 : Nat → FieldType := fun k => match k with
  | _ => .int
abbrev cJ9_floorMod_7cf53 : ByteArray := prog_9_method_50_code
def yJ9_floorMod_7cf53 : MethodName := ⟨RJ9, "floorMod", "(II)I"⟩
abbrev cJ9_max_7cf53 : ByteArray := prog_9_method_65_code
def yJ9_max_7cf53 : MethodName := ⟨RJ9, "max", "(II)I"⟩
abbrev cJ9_min_7cf53 : ByteArray := prog_9_method_69_code
def yJ9_min_7cf53 : MethodName := ⟨RJ9, "min", "(II)I"⟩
def RJ10 : String := "java/lang/System"
def TJ10 : u_T := fun k => match k with
  | _ => ("", "", "", false)
def tyJ10 : Nat → FieldType := fun k => match k with
  | _ => .int
def RL : String := "TransferRingsLaw"
abbrev cL_law : ByteArray := code
def yL_law : MethodName := ⟨RL, "law", "([I)Z"⟩
abbrev classes : List vw_C := [(RX0, TX0, 7), (RX1, TX1, 3), (RX2, TX2, 3), (RX3, TX3, 6), (RX4, TX4, 7), (RX5, TX5, 17)]
end
section
set_option maxRecDepth 20000 in
def lw_g : List Cond := lw_tbl.filter goodWord
set_option maxRecDepth 20000 in
theorem mg {w : Cond} (i : Nat) (h : lw_tbl[i]? = some w) (hg : goodWord w = true) : w ∈ lw_g := List.mem_filter.mpr ⟨List.mem_of_getElem? h, hg⟩
set_option maxRecDepth 20000 in
theorem m_se_X3_skipBlanks : Cond.selects RX3 yX3_skipBlanks yX3_skipBlanks ∈ lw_g := mg 0 (by decide +kernel) (by decide +kernel)
set_option maxRecDepth 20000 in
theorem m_se_X3_readItem : Cond.selects RX3 yX3_readItem yX3_readItem ∈ lw_g := mg 1 (by decide +kernel) (by decide +kernel)
set_option maxRecDepth 20000 in
theorem m_se_X3_readForm : Cond.selects RX3 yX3_readForm yX3_readForm ∈ lw_g := mg 2 (by decide +kernel) (by decide +kernel)
set_option maxRecDepth 20000 in
theorem m_se_X3_readNumber : Cond.selects RX3 yX3_readNumber yX3_readNumber ∈ lw_g := mg 3 (by decide +kernel) (by decide +kernel)
set_option maxRecDepth 20000 in
theorem m_se_X0_post : Cond.selects RX0 yX0_post yX0_post ∈ lw_g := mg 4 (by decide +kernel) (by decide +kernel)
set_option maxRecDepth 20000 in
theorem m_se_X0_writeBack : Cond.selects RX0 yX0_writeBack yX0_writeBack ∈ lw_g := mg 5 (by decide +kernel) (by decide +kernel)
set_option maxRecDepth 20000 in
theorem m_se_X0_nextToGrant : Cond.selects RX0 yX0_nextToGrant yX0_nextToGrant ∈ lw_g := mg 6 (by decide +kernel) (by decide +kernel)
set_option maxRecDepth 20000 in
theorem m_se_X0_grant : Cond.selects RX0 yX0_grant yX0_grant ∈ lw_g := mg 7 (by decide +kernel) (by decide +kernel)
set_option maxRecDepth 20000 in
theorem m_se_X0_carry : Cond.selects RX0 yX0_carry yX0_carry ∈ lw_g := mg 8 (by decide +kernel) (by decide +kernel)
set_option maxRecDepth 20000 in
theorem m_se_X0_letWait : Cond.selects RX0 yX0_letWait yX0_letWait ∈ lw_g := mg 9 (by decide +kernel) (by decide +kernel)
set_option maxRecDepth 20000 in
theorem m_se_X0_writeBackAllOf : Cond.selects RX0 yX0_writeBackAllOf yX0_writeBackAllOf ∈ lw_g := mg 10 (by decide +kernel) (by decide +kernel)
set_option maxRecDepth 20000 in
theorem m_se_X4_presentResidue : Cond.selects RX4 yX4_presentResidue yX4_presentResidue ∈ lw_g := mg 11 (by decide +kernel) (by decide +kernel)
set_option maxRecDepth 20000 in
theorem m_se_X4_ticksUntilOver : Cond.selects RX4 yX4_ticksUntilOver yX4_ticksUntilOver ∈ lw_g := mg 12 (by decide +kernel) (by decide +kernel)
set_option maxRecDepth 20000 in
theorem m_se_X0_uncarriedBoundFor : Cond.selects RX0 yX0_uncarriedBoundFor yX0_uncarriedBoundFor ∈ lw_g := mg 13 (by decide +kernel) (by decide +kernel)
set_option maxRecDepth 20000 in
theorem m_se_X2_lastTick : Cond.selects RX2 yX2_lastTick yX2_lastTick ∈ lw_g := mg 14 (by decide +kernel) (by decide +kernel)
set_option maxRecDepth 20000 in
theorem m_se_X2_allowsInTick : Cond.selects RX2 yX2_allowsInTick yX2_allowsInTick ∈ lw_g := mg 15 (by decide +kernel) (by decide +kernel)
set_option maxRecDepth 20000 in
theorem m_se_X5_goesThrough : Cond.selects RX5 yX5_goesThrough yX5_goesThrough ∈ lw_g := mg 16 (by decide +kernel) (by decide +kernel)
set_option maxRecDepth 20000 in
theorem m_se_X5_takes : Cond.selects RX5 yX5_takes yX5_takes ∈ lw_g := mg 17 (by decide +kernel) (by decide +kernel)
set_option maxRecDepth 20000 in
theorem m_se_X5_isFigure : Cond.selects RX5 yX5_isFigure yX5_isFigure ∈ lw_g := mg 18 (by decide +kernel) (by decide +kernel)
set_option maxRecDepth 20000 in
theorem m_se_X5_takesNumber : Cond.selects RX5 yX5_takesNumber yX5_takesNumber ∈ lw_g := mg 19 (by decide +kernel) (by decide +kernel)
set_option maxRecDepth 20000 in
theorem m_se_X5_readsItem : Cond.selects RX5 yX5_readsItem yX5_readsItem ∈ lw_g := mg 20 (by decide +kernel) (by decide +kernel)
set_option maxRecDepth 20000 in
theorem m_se_X5_readsLetter : Cond.selects RX5 yX5_readsLetter yX5_readsLetter ∈ lw_g := mg 21 (by decide +kernel) (by decide +kernel)
set_option maxRecDepth 20000 in
theorem m_se_X5_reads : Cond.selects RX5 yX5_reads yX5_reads ∈ lw_g := mg 22 (by decide +kernel) (by decide +kernel)
set_option maxRecDepth 20000 in
theorem m_se_X5_doesItem : Cond.selects RX5 yX5_doesItem yX5_doesItem ∈ lw_g := mg 23 (by decide +kernel) (by decide +kernel)
set_option maxRecDepth 20000 in
theorem m_se_X5_comes : Cond.selects RX5 yX5_comes yX5_comes ∈ lw_g := mg 24 (by decide +kernel) (by decide +kernel)
set_option maxRecDepth 20000 in
theorem m_se_X5_isEngines : Cond.selects RX5 yX5_isEngines yX5_isEngines ∈ lw_g := mg 25 (by decide +kernel) (by decide +kernel)
set_option maxRecDepth 20000 in
theorem m_se_X5_keepsSpare : Cond.selects RX5 yX5_keepsSpare yX5_keepsSpare ∈ lw_g := mg 26 (by decide +kernel) (by decide +kernel)
set_option maxRecDepth 20000 in
theorem m_se_X5_takesBack : Cond.selects RX5 yX5_takesBack yX5_takesBack ∈ lw_g := mg 27 (by decide +kernel) (by decide +kernel)
set_option maxRecDepth 20000 in
theorem m_se_X5_remembers : Cond.selects RX5 yX5_remembers yX5_remembers ∈ lw_g := mg 28 (by decide +kernel) (by decide +kernel)
set_option maxRecDepth 20000 in
theorem m_se_X5_ticksOnce : Cond.selects RX5 yX5_ticksOnce yX5_ticksOnce ∈ lw_g := mg 29 (by decide +kernel) (by decide +kernel)
set_option maxRecDepth 20000 in
theorem m_se_X5_writes : Cond.selects RX5 yX5_writes yX5_writes ∈ lw_g := mg 30 (by decide +kernel) (by decide +kernel)
set_option maxRecDepth 20000 in
theorem m_se_X5_isReady : Cond.selects RX5 yX5_isReady yX5_isReady ∈ lw_g := mg 31 (by decide +kernel) (by decide +kernel)
set_option maxRecDepth 20000 in
theorem m_se_X5_present : Cond.selects RX5 yX5_present yX5_present ∈ lw_g := mg 32 (by decide +kernel) (by decide +kernel)
set_option maxRecDepth 20000 in
theorem m_se_X5_carries : Cond.selects RX5 yX5_carries yX5_carries ∈ lw_g := mg 33 (by decide +kernel) (by decide +kernel)
set_option maxRecDepth 20000 in
theorem m_se_X5_unitsOf : Cond.selects RX5 yX5_unitsOf yX5_unitsOf ∈ lw_g := mg 34 (by decide +kernel) (by decide +kernel)
set_option maxRecDepth 20000 in
theorem m_se_X5_addressOf : Cond.selects RX5 yX5_addressOf yX5_addressOf ∈ lw_g := mg 35 (by decide +kernel) (by decide +kernel)
set_option maxRecDepth 20000 in
theorem m_se_X5_writesAll : Cond.selects RX5 yX5_writesAll yX5_writesAll ∈ lw_g := mg 36 (by decide +kernel) (by decide +kernel)
set_option maxRecDepth 20000 in
theorem m_se_X5_writesOf : Cond.selects RX5 yX5_writesOf yX5_writesOf ∈ lw_g := mg 37 (by decide +kernel) (by decide +kernel)
set_option maxRecDepth 20000 in
theorem m_se_X5_overOf : Cond.selects RX5 yX5_overOf yX5_overOf ∈ lw_g := mg 38 (by decide +kernel) (by decide +kernel)
set_option maxRecDepth 20000 in
theorem m_se_X5_hasEngines : Cond.selects RX5 yX5_hasEngines yX5_hasEngines ∈ lw_g := mg 39 (by decide +kernel) (by decide +kernel)
set_option maxRecDepth 20000 in
theorem m_se_X5_isSeen : Cond.selects RX5 yX5_isSeen yX5_isSeen ∈ lw_g := mg 40 (by decide +kernel) (by decide +kernel)
set_option maxRecDepth 20000 in
theorem m_se_X5_engines : Cond.selects RX5 yX5_engines yX5_engines ∈ lw_g := mg 41 (by decide +kernel) (by decide +kernel)
set_option maxRecDepth 20000 in
theorem m_in_L : Cond.initialized RL ∈ lw_g := mg 42 (by decide +kernel) (by decide +kernel)
set_option maxRecDepth 20000 in
theorem m_in_X4 : Cond.initialized RX4 ∈ lw_g := mg 43 (by decide +kernel) (by decide +kernel)
set_option maxRecDepth 20000 in
theorem m_in_X3 : Cond.initialized RX3 ∈ lw_g := mg 44 (by decide +kernel) (by decide +kernel)
set_option maxRecDepth 20000 in
theorem m_in_X0 : Cond.initialized RX0 ∈ lw_g := mg 45 (by decide +kernel) (by decide +kernel)
set_option maxRecDepth 20000 in
theorem m_in_X1 : Cond.initialized RX1 ∈ lw_g := mg 46 (by decide +kernel) (by decide +kernel)
set_option maxRecDepth 20000 in
theorem m_in_X2 : Cond.initialized RX2 ∈ lw_g := mg 47 (by decide +kernel) (by decide +kernel)
set_option maxRecDepth 20000 in
theorem m_in_X5 : Cond.initialized RX5 ∈ lw_g := mg 48 (by decide +kernel) (by decide +kernel)
set_option maxRecDepth 20000 in
theorem m_in_J10 : Cond.initialized RJ10 ∈ lw_g := mg 49 (by decide +kernel) (by decide +kernel)
set_option maxRecDepth 20000 in
theorem m_in_J9 : Cond.initialized RJ9 ∈ lw_g := mg 50 (by decide +kernel) (by decide +kernel)
set_option maxRecDepth 20000 in
theorem m_in_J13 : Cond.initialized RJ13 ∈ lw_g := mg 51 (by decide +kernel) (by decide +kernel)
set_option maxRecDepth 20000 in
theorem m_cl_L_7 : Cond.classLink RL 7 RX4 ∈ lw_g := mg 52 (by decide +kernel) (by decide +kernel)
set_option maxRecDepth 20000 in
theorem m_is_X4 : Cond.instantiable RX4 7 ∈ lw_g := mg 53 (by decide +kernel) (by decide +kernel)
set_option maxRecDepth 20000 in
theorem m_ml_L_9 : Cond.methodLink RL 9 yX4_init ∈ lw_g := mg 54 (by decide +kernel) (by decide +kernel)
set_option maxRecDepth 20000 in
theorem m_im_X4_init : Cond.instanceMethod yX4_init ∈ lw_g := mg 55 (by decide +kernel) (by decide +kernel)
set_option maxRecDepth 20000 in
theorem m_co_X4_init : Cond.code yX4_init cX4_init 2 none ∈ lw_g := mg 56 rfl rfl
set_option maxRecDepth 20000 in
theorem m_ml_X4_1 : Cond.methodLink RX4 1 objectInit ∈ lw_g := mg 57 (by decide +kernel) (by decide +kernel)
set_option maxRecDepth 20000 in
theorem m_im_objectInit : Cond.instanceMethod objectInit ∈ lw_g := mg 58 (by decide +kernel) (by decide +kernel)
set_option maxRecDepth 20000 in
theorem m_co_objectInit : Cond.code objectInit ⟨#[0xb1]⟩ 1 none ∈ lw_g := mg 59 rfl rfl
set_option maxRecDepth 20000 in
theorem m_cl_X4_7 : Cond.classLink RX4 7 RX3 ∈ lw_g := mg 60 (by decide +kernel) (by decide +kernel)
set_option maxRecDepth 20000 in
theorem m_is_X3 : Cond.instantiable RX3 6 ∈ lw_g := mg 61 (by decide +kernel) (by decide +kernel)
set_option maxRecDepth 20000 in
theorem m_ml_X4_9 : Cond.methodLink RX4 9 yX3_init ∈ lw_g := mg 62 (by decide +kernel) (by decide +kernel)
set_option maxRecDepth 20000 in
theorem m_im_X3_init : Cond.instanceMethod yX3_init ∈ lw_g := mg 63 (by decide +kernel) (by decide +kernel)
set_option maxRecDepth 20000 in
theorem m_co_X3_init : Cond.code yX3_init cX3_init 1 none ∈ lw_g := mg 64 rfl rfl
set_option maxRecDepth 20000 in
theorem m_ml_X3_3 : Cond.methodLink RX3 3 objectInit ∈ lw_g := mg 65 (by decide +kernel) (by decide +kernel)
set_option maxRecDepth 20000 in
theorem m_fl_X3_9 : Cond.fieldLink RX3 9 "TransferRings$Text" "signs" "[I" ∈ lw_g := mg 66 (by decide +kernel) (by decide +kernel)
set_option maxRecDepth 20000 in
theorem m_fl_X3_13 : Cond.fieldLink RX3 13 "TransferRings$Text" "kinds" "[I" ∈ lw_g := mg 67 (by decide +kernel) (by decide +kernel)
set_option maxRecDepth 20000 in
theorem m_fl_X3_16 : Cond.fieldLink RX3 16 "TransferRings$Text" "numbers" "[I" ∈ lw_g := mg 68 (by decide +kernel) (by decide +kernel)
set_option maxRecDepth 20000 in
theorem m_fl_X3_19 : Cond.fieldLink RX3 19 "TransferRings$Text" "place" "I" ∈ lw_g := mg 69 (by decide +kernel) (by decide +kernel)
set_option maxRecDepth 20000 in
theorem m_fl_X3_23 : Cond.fieldLink RX3 23 "TransferRings$Text" "length" "I" ∈ lw_g := mg 70 (by decide +kernel) (by decide +kernel)
set_option maxRecDepth 20000 in
theorem m_fl_X4_56 : Cond.fieldLink RX4 56 "TransferRings$Text" "length" "I" ∈ lw_g := mg 71 (by decide +kernel) (by decide +kernel)
set_option maxRecDepth 20000 in
theorem m_fl_X3_26 : Cond.fieldLink RX3 26 "TransferRings$Text" "itemCount" "I" ∈ lw_g := mg 72 (by decide +kernel) (by decide +kernel)
set_option maxRecDepth 20000 in
theorem m_fl_X4_71 : Cond.fieldLink RX4 71 "TransferRings$Text" "itemCount" "I" ∈ lw_g := mg 73 (by decide +kernel) (by decide +kernel)
set_option maxRecDepth 20000 in
theorem m_ac_int : Cond.arrayClass .int ∈ lw_g := mg 87 (by decide +kernel) (by decide +kernel)
set_option maxRecDepth 20000 in
theorem m_cl_X4_16 : Cond.classLink RX4 16 RX0 ∈ lw_g := mg 88 (by decide +kernel) (by decide +kernel)
set_option maxRecDepth 20000 in
theorem m_is_X0 : Cond.instantiable RX0 7 ∈ lw_g := mg 89 (by decide +kernel) (by decide +kernel)
set_option maxRecDepth 20000 in
theorem m_ml_X4_18 : Cond.methodLink RX4 18 yX0_init ∈ lw_g := mg 90 (by decide +kernel) (by decide +kernel)
set_option maxRecDepth 20000 in
theorem m_im_X0_init : Cond.instanceMethod yX0_init ∈ lw_g := mg 91 (by decide +kernel) (by decide +kernel)
set_option maxRecDepth 20000 in
theorem m_co_X0_init : Cond.code yX0_init cX0_init 2 none ∈ lw_g := mg 92 rfl rfl
set_option maxRecDepth 20000 in
theorem m_ml_X0_3 : Cond.methodLink RX0 3 objectInit ∈ lw_g := mg 93 (by decide +kernel) (by decide +kernel)
set_option maxRecDepth 20000 in
theorem m_fl_X0_9 : Cond.fieldLink RX0 9 "TransferRings$Engine" "memory" "[I" ∈ lw_g := mg 94 (by decide +kernel) (by decide +kernel)
set_option maxRecDepth 20000 in
theorem m_fl_X4_110 : Cond.fieldLink RX4 110 "TransferRings$Engine" "memory" "[I" ∈ lw_g := mg 95 (by decide +kernel) (by decide +kernel)
set_option maxRecDepth 20000 in
theorem m_fl_X0_15 : Cond.fieldLink RX0 15 "TransferRings$Engine" "channels" "[I" ∈ lw_g := mg 96 (by decide +kernel) (by decide +kernel)
set_option maxRecDepth 20000 in
theorem m_fl_X0_18 : Cond.fieldLink RX0 18 "TransferRings$Engine" "letters" "[I" ∈ lw_g := mg 97 (by decide +kernel) (by decide +kernel)
set_option maxRecDepth 20000 in
theorem m_fl_X0_21 : Cond.fieldLink RX0 21 "TransferRings$Engine" "queue" "[I" ∈ lw_g := mg 98 (by decide +kernel) (by decide +kernel)
set_option maxRecDepth 20000 in
theorem m_fl_X4_143 : Cond.fieldLink RX4 143 "TransferRings$Engine" "queue" "[I" ∈ lw_g := mg 99 (by decide +kernel) (by decide +kernel)
set_option maxRecDepth 20000 in
theorem m_fl_X0_24 : Cond.fieldLink RX0 24 "TransferRings$Engine" "queued" "I" ∈ lw_g := mg 100 (by decide +kernel) (by decide +kernel)
set_option maxRecDepth 20000 in
theorem m_fl_X4_140 : Cond.fieldLink RX4 140 "TransferRings$Engine" "queued" "I" ∈ lw_g := mg 101 (by decide +kernel) (by decide +kernel)
set_option maxRecDepth 20000 in
theorem m_fl_X0_28 : Cond.fieldLink RX0 28 "TransferRings$Engine" "lastGranted" "I" ∈ lw_g := mg 102 (by decide +kernel) (by decide +kernel)
set_option maxRecDepth 20000 in
theorem m_fl_X4_180 : Cond.fieldLink RX4 180 "TransferRings$Engine" "lastGranted" "I" ∈ lw_g := mg 103 (by decide +kernel) (by decide +kernel)
set_option maxRecDepth 20000 in
theorem m_fl_X0_31 : Cond.fieldLink RX0 31 "TransferRings$Engine" "ticksGone" "I" ∈ lw_g := mg 104 (by decide +kernel) (by decide +kernel)
set_option maxRecDepth 20000 in
theorem m_fl_X4_183 : Cond.fieldLink RX4 183 "TransferRings$Engine" "ticksGone" "I" ∈ lw_g := mg 105 (by decide +kernel) (by decide +kernel)
set_option maxRecDepth 20000 in
theorem m_cl_X4_26 : Cond.classLink RX4 26 RX1 ∈ lw_g := mg 121 (by decide +kernel) (by decide +kernel)
set_option maxRecDepth 20000 in
theorem m_is_X1 : Cond.instantiable RX1 3 ∈ lw_g := mg 122 (by decide +kernel) (by decide +kernel)
set_option maxRecDepth 20000 in
theorem m_ml_X4_28 : Cond.methodLink RX4 28 yX1_init ∈ lw_g := mg 123 (by decide +kernel) (by decide +kernel)
set_option maxRecDepth 20000 in
theorem m_im_X1_init : Cond.instanceMethod yX1_init ∈ lw_g := mg 124 (by decide +kernel) (by decide +kernel)
set_option maxRecDepth 20000 in
theorem m_co_X1_init : Cond.code yX1_init cX1_init 2 none ∈ lw_g := mg 125 rfl rfl
set_option maxRecDepth 20000 in
theorem m_ml_X1_1 : Cond.methodLink RX1 1 objectInit ∈ lw_g := mg 126 (by decide +kernel) (by decide +kernel)
set_option maxRecDepth 20000 in
theorem m_cl_X1_9 : Cond.classLink RX1 9 RX0 ∈ lw_g := mg 127 (by decide +kernel) (by decide +kernel)
set_option maxRecDepth 20000 in
theorem m_ao : Cond.arrayOver (.object RX0) ∈ lw_tbl := List.mem_of_getElem? (i := 128) (by decide +kernel)
set_option maxRecDepth 20000 in
theorem m_ml_X1_15 : Cond.methodLink RX1 15 yX0_init ∈ lw_g := mg 129 (by decide +kernel) (by decide +kernel)
set_option maxRecDepth 20000 in
theorem m_fl_X1_11 : Cond.fieldLink RX1 11 "TransferRings$History" "past" "[LTransferRings$Engine;" ∈ lw_g := mg 130 (by decide +kernel) (by decide +kernel)
set_option maxRecDepth 20000 in
theorem m_fl_X1_16 : Cond.fieldLink RX1 16 "TransferRings$History" "newest" "I" ∈ lw_g := mg 131 (by decide +kernel) (by decide +kernel)
set_option maxRecDepth 20000 in
theorem m_fl_X1_20 : Cond.fieldLink RX1 20 "TransferRings$History" "known" "I" ∈ lw_g := mg 132 (by decide +kernel) (by decide +kernel)
set_option maxRecDepth 20000 in
theorem m_fl_X4_107 : Cond.fieldLink RX4 107 "TransferRings$History" "known" "I" ∈ lw_g := mg 133 (by decide +kernel) (by decide +kernel)
set_option maxRecDepth 20000 in
theorem m_cl_X4_33 : Cond.classLink RX4 33 RX2 ∈ lw_g := mg 141 (by decide +kernel) (by decide +kernel)
set_option maxRecDepth 20000 in
theorem m_is_X2 : Cond.instantiable RX2 3 ∈ lw_g := mg 142 (by decide +kernel) (by decide +kernel)
set_option maxRecDepth 20000 in
theorem m_ml_X4_35 : Cond.methodLink RX4 35 yX2_init ∈ lw_g := mg 143 (by decide +kernel) (by decide +kernel)
set_option maxRecDepth 20000 in
theorem m_im_X2_init : Cond.instanceMethod yX2_init ∈ lw_g := mg 144 (by decide +kernel) (by decide +kernel)
set_option maxRecDepth 20000 in
theorem m_co_X2_init : Cond.code yX2_init cX2_init 1 none ∈ lw_g := mg 145 rfl rfl
set_option maxRecDepth 20000 in
theorem m_ml_X2_1 : Cond.methodLink RX2 1 objectInit ∈ lw_g := mg 146 (by decide +kernel) (by decide +kernel)
set_option maxRecDepth 20000 in
theorem m_fl_X2_9 : Cond.fieldLink RX2 9 "TransferRings$Sightings" "inTick" "[I" ∈ lw_g := mg 147 (by decide +kernel) (by decide +kernel)
set_option maxRecDepth 20000 in
theorem m_fl_X2_13 : Cond.fieldLink RX2 13 "TransferRings$Sightings" "who" "[I" ∈ lw_g := mg 148 (by decide +kernel) (by decide +kernel)
set_option maxRecDepth 20000 in
theorem m_fl_X2_16 : Cond.fieldLink RX2 16 "TransferRings$Sightings" "seen" "I" ∈ lw_g := mg 149 (by decide +kernel) (by decide +kernel)
set_option maxRecDepth 20000 in
theorem m_fl_X4_165 : Cond.fieldLink RX4 165 "TransferRings$Sightings" "seen" "I" ∈ lw_g := mg 150 (by decide +kernel) (by decide +kernel)
set_option maxRecDepth 20000 in
theorem m_fl_X4_10 : Cond.fieldLink RX4 10 "TransferRings" "text" "LTransferRings$Text;" ∈ lw_g := mg 158 (by decide +kernel) (by decide +kernel)
set_option maxRecDepth 20000 in
theorem m_fl_X4_19 : Cond.fieldLink RX4 19 "TransferRings" "now" "LTransferRings$Engine;" ∈ lw_g := mg 159 (by decide +kernel) (by decide +kernel)
set_option maxRecDepth 20000 in
theorem m_fl_X4_23 : Cond.fieldLink RX4 23 "TransferRings" "trial" "LTransferRings$Engine;" ∈ lw_g := mg 160 (by decide +kernel) (by decide +kernel)
set_option maxRecDepth 20000 in
theorem m_fl_X4_29 : Cond.fieldLink RX4 29 "TransferRings" "history" "LTransferRings$History;" ∈ lw_g := mg 161 (by decide +kernel) (by decide +kernel)
set_option maxRecDepth 20000 in
theorem m_fl_X4_36 : Cond.fieldLink RX4 36 "TransferRings" "sightings" "LTransferRings$Sightings;" ∈ lw_g := mg 162 (by decide +kernel) (by decide +kernel)
set_option maxRecDepth 20000 in
theorem m_fl_X4_40 : Cond.fieldLink RX4 40 "TransferRings" "images" "[LTransferRings$Engine;" ∈ lw_g := mg 163 (by decide +kernel) (by decide +kernel)
set_option maxRecDepth 20000 in
theorem m_fl_X4_44 : Cond.fieldLink RX4 44 "TransferRings" "imageKept" "[Z" ∈ lw_g := mg 164 (by decide +kernel) (by decide +kernel)
set_option maxRecDepth 20000 in
theorem m_ac_boolean : Cond.arrayClass .boolean ∈ lw_g := mg 180 (by decide +kernel) (by decide +kernel)
set_option maxRecDepth 20000 in
theorem m_ml_L_13 : Cond.methodLink RL 13 yX4_type ∈ lw_g := mg 181 (by decide +kernel) (by decide +kernel)
set_option maxRecDepth 20000 in
theorem m_im_X4_type : Cond.instanceMethod yX4_type ∈ lw_g := mg 182 (by decide +kernel) (by decide +kernel)
set_option maxRecDepth 20000 in
theorem m_se_X4_type : Cond.selects RX4 yX4_type yX4_type ∈ lw_g := mg 183 (by decide +kernel) (by decide +kernel)
set_option maxRecDepth 20000 in
theorem m_co_X4_type : Cond.code yX4_type cX4_type 2 (some .int) ∈ lw_g := mg 184 rfl rfl
set_option maxRecDepth 20000 in
theorem m_ml_X4_48 : Cond.methodLink RX4 48 yX4_within ∈ lw_g := mg 185 (by decide +kernel) (by decide +kernel)
set_option maxRecDepth 20000 in
theorem m_st_X4_within : Cond.static yX4_within ∈ lw_g := mg 186 (by decide +kernel) (by decide +kernel)
set_option maxRecDepth 20000 in
theorem m_co_X4_within : Cond.code yX4_within cX4_within 3 (some .boolean) ∈ lw_g := mg 187 rfl rfl
set_option maxRecDepth 20000 in
theorem m_ml_X4_52 : Cond.methodLink RX4 52 yX3_append ∈ lw_g := mg 188 (by decide +kernel) (by decide +kernel)
set_option maxRecDepth 20000 in
theorem m_im_X3_append : Cond.instanceMethod yX3_append ∈ lw_g := mg 189 (by decide +kernel) (by decide +kernel)
set_option maxRecDepth 20000 in
theorem m_se_X3_append : Cond.selects RX3 yX3_append yX3_append ∈ lw_g := mg 190 (by decide +kernel) (by decide +kernel)
set_option maxRecDepth 20000 in
theorem m_co_X3_append : Cond.code yX3_append cX3_append 2 (some .boolean) ∈ lw_g := mg 191 rfl rfl
set_option maxRecDepth 20000 in
theorem m_ml_L_18 : Cond.methodLink RL 18 yX4_clear ∈ lw_g := mg 192 (by decide +kernel) (by decide +kernel)
set_option maxRecDepth 20000 in
theorem m_im_X4_clear : Cond.instanceMethod yX4_clear ∈ lw_g := mg 193 (by decide +kernel) (by decide +kernel)
set_option maxRecDepth 20000 in
theorem m_se_X4_clear : Cond.selects RX4 yX4_clear yX4_clear ∈ lw_g := mg 194 (by decide +kernel) (by decide +kernel)
set_option maxRecDepth 20000 in
theorem m_co_X4_clear : Cond.code yX4_clear cX4_clear 2 (some .int) ∈ lw_g := mg 195 rfl rfl
set_option maxRecDepth 20000 in
theorem m_ml_X4_60 : Cond.methodLink RX4 60 yX3_wipe ∈ lw_g := mg 196 (by decide +kernel) (by decide +kernel)
set_option maxRecDepth 20000 in
theorem m_im_X3_wipe : Cond.instanceMethod yX3_wipe ∈ lw_g := mg 197 (by decide +kernel) (by decide +kernel)
set_option maxRecDepth 20000 in
theorem m_se_X3_wipe : Cond.selects RX3 yX3_wipe yX3_wipe ∈ lw_g := mg 198 (by decide +kernel) (by decide +kernel)
set_option maxRecDepth 20000 in
theorem m_co_X3_wipe : Cond.code yX3_wipe cX3_wipe 1 none ∈ lw_g := mg 199 rfl rfl
set_option maxRecDepth 20000 in
theorem m_ml_L_23 : Cond.methodLink RL 23 yX4_posts ∈ lw_g := mg 200 (by decide +kernel) (by decide +kernel)
set_option maxRecDepth 20000 in
theorem m_im_X4_posts : Cond.instanceMethod yX4_posts ∈ lw_g := mg 201 (by decide +kernel) (by decide +kernel)
set_option maxRecDepth 20000 in
theorem m_se_X4_posts : Cond.selects RX4 yX4_posts yX4_posts ∈ lw_g := mg 202 (by decide +kernel) (by decide +kernel)
set_option maxRecDepth 20000 in
theorem m_co_X4_posts : Cond.code yX4_posts cX4_posts 3 (some .int) ∈ lw_g := mg 203 rfl rfl
set_option maxRecDepth 20000 in
theorem m_ml_X4_63 : Cond.methodLink RX4 63 yX3_read ∈ lw_g := mg 204 (by decide +kernel) (by decide +kernel)
set_option maxRecDepth 20000 in
theorem m_im_X3_read : Cond.instanceMethod yX3_read ∈ lw_g := mg 205 (by decide +kernel) (by decide +kernel)
set_option maxRecDepth 20000 in
theorem m_se_X3_read : Cond.selects RX3 yX3_read yX3_read ∈ lw_g := mg 206 (by decide +kernel) (by decide +kernel)
set_option maxRecDepth 20000 in
theorem m_co_X3_read : Cond.code yX3_read cX3_read 1 (some .int) ∈ lw_g := mg 207 rfl rfl
set_option maxRecDepth 20000 in
theorem m_ml_X3_29 : Cond.methodLink RX3 29 yX3_skipBlanks ∈ lw_g := mg 208 (by decide +kernel) (by decide +kernel)
set_option maxRecDepth 20000 in
theorem m_im_X3_skipBlanks : Cond.instanceMethod yX3_skipBlanks ∈ lw_g := mg 210 (by decide +kernel) (by decide +kernel)
set_option maxRecDepth 20000 in
theorem m_co_X3_skipBlanks : Cond.code yX3_skipBlanks cX3_skipBlanks 1 none ∈ lw_g := mg 211 rfl rfl
set_option maxRecDepth 20000 in
theorem m_ml_X3_32 : Cond.methodLink RX3 32 yX3_readItem ∈ lw_g := mg 212 (by decide +kernel) (by decide +kernel)
set_option maxRecDepth 20000 in
theorem m_im_X3_readItem : Cond.instanceMethod yX3_readItem ∈ lw_g := mg 214 (by decide +kernel) (by decide +kernel)
set_option maxRecDepth 20000 in
theorem m_co_X3_readItem : Cond.code yX3_readItem cX3_readItem 2 (some .boolean) ∈ lw_g := mg 215 rfl rfl
set_option maxRecDepth 20000 in
theorem m_fl_X3_36 : Cond.fieldLink RX3 36 "TransferRings$Text" "LETTER_LEAST" "[I" ∈ lw_g := mg 216 (by decide +kernel) (by decide +kernel)
set_option maxRecDepth 20000 in
theorem m_ls_LETTER_LEAST : Cond.laysStatic "TransferRings$Text" "LETTER_LEAST" "[I" ∈ lw_tbl := List.mem_of_getElem? (i := 217) (by decide +kernel)
set_option maxRecDepth 20000 in
theorem m_fl_X3_39 : Cond.fieldLink RX3 39 "TransferRings$Text" "LETTER_MOST" "[I" ∈ lw_g := mg 218 (by decide +kernel) (by decide +kernel)
set_option maxRecDepth 20000 in
theorem m_ls_LETTER_MOST : Cond.laysStatic "TransferRings$Text" "LETTER_MOST" "[I" ∈ lw_tbl := List.mem_of_getElem? (i := 219) (by decide +kernel)
set_option maxRecDepth 20000 in
theorem m_ml_X3_42 : Cond.methodLink RX3 42 yX3_readForm ∈ lw_g := mg 220 (by decide +kernel) (by decide +kernel)
set_option maxRecDepth 20000 in
theorem m_im_X3_readForm : Cond.instanceMethod yX3_readForm ∈ lw_g := mg 222 (by decide +kernel) (by decide +kernel)
set_option maxRecDepth 20000 in
theorem m_co_X3_readForm : Cond.code yX3_readForm cX3_readForm 5 (some .boolean) ∈ lw_g := mg 223 rfl rfl
set_option maxRecDepth 20000 in
theorem m_ml_X3_58 : Cond.methodLink RX3 58 yX3_readNumber ∈ lw_g := mg 224 (by decide +kernel) (by decide +kernel)
set_option maxRecDepth 20000 in
theorem m_im_X3_readNumber : Cond.instanceMethod yX3_readNumber ∈ lw_g := mg 226 (by decide +kernel) (by decide +kernel)
set_option maxRecDepth 20000 in
theorem m_co_X3_readNumber : Cond.code yX3_readNumber cX3_readNumber 8 (some .boolean) ∈ lw_g := mg 227 rfl rfl
set_option maxRecDepth 20000 in
theorem m_ml_X3_62 : Cond.methodLink RX3 62 yX3_isFigure ∈ lw_g := mg 228 (by decide +kernel) (by decide +kernel)
set_option maxRecDepth 20000 in
theorem m_st_X3_isFigure : Cond.static yX3_isFigure ∈ lw_g := mg 229 (by decide +kernel) (by decide +kernel)
set_option maxRecDepth 20000 in
theorem m_co_X3_isFigure : Cond.code yX3_isFigure cX3_isFigure 1 (some .boolean) ∈ lw_g := mg 230 rfl rfl
set_option maxRecDepth 20000 in
theorem m_mn_X3_66 : Cond.methodLinkNest RX3 66 yX4_within RX4 ∈ lw_tbl := List.mem_of_getElem? (i := 231) (by decide +kernel)
set_option maxRecDepth 20000 in
theorem m_fl_X3_46 : Cond.fieldLink RX3 46 "TransferRings$Text" "FILL_LEAST" "[I" ∈ lw_g := mg 232 (by decide +kernel) (by decide +kernel)
set_option maxRecDepth 20000 in
theorem m_ls_FILL_LEAST : Cond.laysStatic "TransferRings$Text" "FILL_LEAST" "[I" ∈ lw_tbl := List.mem_of_getElem? (i := 233) (by decide +kernel)
set_option maxRecDepth 20000 in
theorem m_fl_X3_49 : Cond.fieldLink RX3 49 "TransferRings$Text" "FILL_MOST" "[I" ∈ lw_g := mg 234 (by decide +kernel) (by decide +kernel)
set_option maxRecDepth 20000 in
theorem m_ls_FILL_MOST : Cond.laysStatic "TransferRings$Text" "FILL_MOST" "[I" ∈ lw_tbl := List.mem_of_getElem? (i := 235) (by decide +kernel)
set_option maxRecDepth 20000 in
theorem m_fl_X3_52 : Cond.fieldLink RX3 52 "TransferRings$Text" "TUNE_LEAST" "[I" ∈ lw_g := mg 236 (by decide +kernel) (by decide +kernel)
set_option maxRecDepth 20000 in
theorem m_ls_TUNE_LEAST : Cond.laysStatic "TransferRings$Text" "TUNE_LEAST" "[I" ∈ lw_tbl := List.mem_of_getElem? (i := 237) (by decide +kernel)
set_option maxRecDepth 20000 in
theorem m_fl_X3_55 : Cond.fieldLink RX3 55 "TransferRings$Text" "TUNE_MOST" "[I" ∈ lw_g := mg 238 (by decide +kernel) (by decide +kernel)
set_option maxRecDepth 20000 in
theorem m_ls_TUNE_MOST : Cond.laysStatic "TransferRings$Text" "TUNE_MOST" "[I" ∈ lw_tbl := List.mem_of_getElem? (i := 239) (by decide +kernel)
set_option maxRecDepth 20000 in
theorem m_ml_X4_67 : Cond.methodLink RX4 67 yX0_copyFrom ∈ lw_g := mg 240 (by decide +kernel) (by decide +kernel)
set_option maxRecDepth 20000 in
theorem m_im_X0_copyFrom : Cond.instanceMethod yX0_copyFrom ∈ lw_g := mg 241 (by decide +kernel) (by decide +kernel)
set_option maxRecDepth 20000 in
theorem m_se_X0_copyFrom : Cond.selects RX0 yX0_copyFrom yX0_copyFrom ∈ lw_g := mg 242 (by decide +kernel) (by decide +kernel)
set_option maxRecDepth 20000 in
theorem m_co_X0_copyFrom : Cond.code yX0_copyFrom cX0_copyFrom 2 none ∈ lw_g := mg 243 rfl rfl
set_option maxRecDepth 20000 in
theorem m_ml_X0_34 : Cond.methodLink RX0 34 arraycopyName ∈ lw_g := mg 244 (by decide +kernel) (by decide +kernel)
set_option maxRecDepth 20000 in
theorem m_st_arraycopyName : Cond.static arraycopyName ∈ lw_g := mg 245 (by decide +kernel) (by decide +kernel)
set_option maxRecDepth 20000 in
theorem m_na_arraycopyName : Cond.native arraycopyName ∈ lw_g := mg 246 (by decide +kernel) (by decide +kernel)
set_option maxRecDepth 20000 in
theorem m_ml_X4_74 : Cond.methodLink RX4 74 yX0_take ∈ lw_g := mg 247 (by decide +kernel) (by decide +kernel)
set_option maxRecDepth 20000 in
theorem m_im_X0_take : Cond.instanceMethod yX0_take ∈ lw_g := mg 248 (by decide +kernel) (by decide +kernel)
set_option maxRecDepth 20000 in
theorem m_se_X0_take : Cond.selects RX0 yX0_take yX0_take ∈ lw_g := mg 249 (by decide +kernel) (by decide +kernel)
set_option maxRecDepth 20000 in
theorem m_co_X0_take : Cond.code yX0_take cX0_take 4 (some .boolean) ∈ lw_g := mg 250 rfl rfl
set_option maxRecDepth 20000 in
theorem m_ml_X0_79 : Cond.methodLink RX0 79 yX3_number ∈ lw_g := mg 251 (by decide +kernel) (by decide +kernel)
set_option maxRecDepth 20000 in
theorem m_im_X3_number : Cond.instanceMethod yX3_number ∈ lw_g := mg 252 (by decide +kernel) (by decide +kernel)
set_option maxRecDepth 20000 in
theorem m_se_X3_number : Cond.selects RX3 yX3_number yX3_number ∈ lw_g := mg 253 (by decide +kernel) (by decide +kernel)
set_option maxRecDepth 20000 in
theorem m_co_X3_number : Cond.code yX3_number cX3_number 3 (some .int) ∈ lw_g := mg 254 rfl rfl
set_option maxRecDepth 20000 in
theorem m_ml_X0_84 : Cond.methodLink RX0 84 yX3_kind ∈ lw_g := mg 255 (by decide +kernel) (by decide +kernel)
set_option maxRecDepth 20000 in
theorem m_im_X3_kind : Cond.instanceMethod yX3_kind ∈ lw_g := mg 256 (by decide +kernel) (by decide +kernel)
set_option maxRecDepth 20000 in
theorem m_se_X3_kind : Cond.selects RX3 yX3_kind yX3_kind ∈ lw_g := mg 257 (by decide +kernel) (by decide +kernel)
set_option maxRecDepth 20000 in
theorem m_co_X3_kind : Cond.code yX3_kind cX3_kind 2 (some .int) ∈ lw_g := mg 258 rfl rfl
set_option maxRecDepth 20000 in
theorem m_ml_X0_87 : Cond.methodLink RX0 87 yX0_post ∈ lw_g := mg 259 (by decide +kernel) (by decide +kernel)
set_option maxRecDepth 20000 in
theorem m_im_X0_post : Cond.instanceMethod yX0_post ∈ lw_g := mg 261 (by decide +kernel) (by decide +kernel)
set_option maxRecDepth 20000 in
theorem m_co_X0_post : Cond.code yX0_post cX0_post 7 (some .boolean) ∈ lw_g := mg 262 rfl rfl
set_option maxRecDepth 20000 in
theorem m_ml_X0_73 : Cond.methodLink RX0 73 yX0_ofChannel ∈ lw_g := mg 263 (by decide +kernel) (by decide +kernel)
set_option maxRecDepth 20000 in
theorem m_im_X0_ofChannel : Cond.instanceMethod yX0_ofChannel ∈ lw_g := mg 264 (by decide +kernel) (by decide +kernel)
set_option maxRecDepth 20000 in
theorem m_se_X0_ofChannel : Cond.selects RX0 yX0_ofChannel yX0_ofChannel ∈ lw_g := mg 265 (by decide +kernel) (by decide +kernel)
set_option maxRecDepth 20000 in
theorem m_co_X0_ofChannel : Cond.code yX0_ofChannel cX0_ofChannel 3 (some .int) ∈ lw_g := mg 266 rfl rfl
set_option maxRecDepth 20000 in
theorem m_ml_X0_64 : Cond.methodLink RX0 64 yX0_placeOf ∈ lw_g := mg 267 (by decide +kernel) (by decide +kernel)
set_option maxRecDepth 20000 in
theorem m_st_X0_placeOf : Cond.static yX0_placeOf ∈ lw_g := mg 268 (by decide +kernel) (by decide +kernel)
set_option maxRecDepth 20000 in
theorem m_co_X0_placeOf : Cond.code yX0_placeOf cX0_placeOf 2 (some .int) ∈ lw_g := mg 269 rfl rfl
set_option maxRecDepth 20000 in
theorem m_ml_X0_67 : Cond.methodLink RX0 67 yX0_isEngines ∈ lw_g := mg 270 (by decide +kernel) (by decide +kernel)
set_option maxRecDepth 20000 in
theorem m_im_X0_isEngines : Cond.instanceMethod yX0_isEngines ∈ lw_g := mg 271 (by decide +kernel) (by decide +kernel)
set_option maxRecDepth 20000 in
theorem m_se_X0_isEngines : Cond.selects RX0 yX0_isEngines yX0_isEngines ∈ lw_g := mg 272 (by decide +kernel) (by decide +kernel)
set_option maxRecDepth 20000 in
theorem m_co_X0_isEngines : Cond.code yX0_isEngines cX0_isEngines 2 (some .boolean) ∈ lw_g := mg 273 rfl rfl
set_option maxRecDepth 20000 in
theorem m_ml_X0_40 : Cond.methodLink RX0 40 yX0_ofLetter ∈ lw_g := mg 274 (by decide +kernel) (by decide +kernel)
set_option maxRecDepth 20000 in
theorem m_im_X0_ofLetter : Cond.instanceMethod yX0_ofLetter ∈ lw_g := mg 275 (by decide +kernel) (by decide +kernel)
set_option maxRecDepth 20000 in
theorem m_se_X0_ofLetter : Cond.selects RX0 yX0_ofLetter yX0_ofLetter ∈ lw_g := mg 276 (by decide +kernel) (by decide +kernel)
set_option maxRecDepth 20000 in
theorem m_co_X0_ofLetter : Cond.code yX0_ofLetter cX0_ofLetter 3 (some .int) ∈ lw_g := mg 277 rfl rfl
set_option maxRecDepth 20000 in
theorem m_ml_X0_95 : Cond.methodLink RX0 95 yX0_setLetter ∈ lw_g := mg 278 (by decide +kernel) (by decide +kernel)
set_option maxRecDepth 20000 in
theorem m_im_X0_setLetter : Cond.instanceMethod yX0_setLetter ∈ lw_g := mg 279 (by decide +kernel) (by decide +kernel)
set_option maxRecDepth 20000 in
theorem m_se_X0_setLetter : Cond.selects RX0 yX0_setLetter yX0_setLetter ∈ lw_g := mg 280 (by decide +kernel) (by decide +kernel)
set_option maxRecDepth 20000 in
theorem m_co_X0_setLetter : Cond.code yX0_setLetter cX0_setLetter 4 none ∈ lw_g := mg 281 rfl rfl
set_option maxRecDepth 20000 in
theorem m_ml_X0_49 : Cond.methodLink RX0 49 yX0_unitsOf ∈ lw_g := mg 282 (by decide +kernel) (by decide +kernel)
set_option maxRecDepth 20000 in
theorem m_im_X0_unitsOf : Cond.instanceMethod yX0_unitsOf ∈ lw_g := mg 283 (by decide +kernel) (by decide +kernel)
set_option maxRecDepth 20000 in
theorem m_se_X0_unitsOf : Cond.selects RX0 yX0_unitsOf yX0_unitsOf ∈ lw_g := mg 284 (by decide +kernel) (by decide +kernel)
set_option maxRecDepth 20000 in
theorem m_co_X0_unitsOf : Cond.code yX0_unitsOf cX0_unitsOf 2 (some .int) ∈ lw_g := mg 285 rfl rfl
set_option maxRecDepth 20000 in
theorem m_ml_X0_98 : Cond.methodLink RX0 98 yX0_slotBehind ∈ lw_g := mg 286 (by decide +kernel) (by decide +kernel)
set_option maxRecDepth 20000 in
theorem m_st_X0_slotBehind : Cond.static yX0_slotBehind ∈ lw_g := mg 287 (by decide +kernel) (by decide +kernel)
set_option maxRecDepth 20000 in
theorem m_co_X0_slotBehind : Cond.code yX0_slotBehind cX0_slotBehind 1 (some .int) ∈ lw_g := mg 288 rfl rfl
set_option maxRecDepth 20000 in
theorem m_ml_X0_91 : Cond.methodLink RX0 91 yX0_setChannel ∈ lw_g := mg 289 (by decide +kernel) (by decide +kernel)
set_option maxRecDepth 20000 in
theorem m_im_X0_setChannel : Cond.instanceMethod yX0_setChannel ∈ lw_g := mg 290 (by decide +kernel) (by decide +kernel)
set_option maxRecDepth 20000 in
theorem m_se_X0_setChannel : Cond.selects RX0 yX0_setChannel yX0_setChannel ∈ lw_g := mg 291 (by decide +kernel) (by decide +kernel)
set_option maxRecDepth 20000 in
theorem m_co_X0_setChannel : Cond.code yX0_setChannel cX0_setChannel 4 none ∈ lw_g := mg 292 rfl rfl
set_option maxRecDepth 20000 in
theorem m_ml_X4_78 : Cond.methodLink RX4 78 yX1_remember ∈ lw_g := mg 293 (by decide +kernel) (by decide +kernel)
set_option maxRecDepth 20000 in
theorem m_im_X1_remember : Cond.instanceMethod yX1_remember ∈ lw_g := mg 294 (by decide +kernel) (by decide +kernel)
set_option maxRecDepth 20000 in
theorem m_se_X1_remember : Cond.selects RX1 yX1_remember yX1_remember ∈ lw_g := mg 295 (by decide +kernel) (by decide +kernel)
set_option maxRecDepth 20000 in
theorem m_co_X1_remember : Cond.code yX1_remember cX1_remember 2 none ∈ lw_g := mg 296 rfl rfl
set_option maxRecDepth 20000 in
theorem m_ml_X1_23 : Cond.methodLink RX1 23 yX0_copyFrom ∈ lw_g := mg 297 (by decide +kernel) (by decide +kernel)
set_option maxRecDepth 20000 in
theorem m_ml_X1_27 : Cond.methodLink RX1 27 yJ9_min_7cf53 ∈ lw_g := mg 298 (by decide +kernel) (by decide +kernel)
set_option maxRecDepth 20000 in
theorem m_st_J9_min_7cf53 : Cond.static yJ9_min_7cf53 ∈ lw_g := mg 299 (by decide +kernel) (by decide +kernel)
set_option maxRecDepth 20000 in
theorem m_co_J9_min_7cf53 : Cond.code yJ9_min_7cf53 cJ9_min_7cf53 2 (some .int) ∈ lw_g := mg 300 rfl rfl
set_option maxRecDepth 20000 in
theorem m_ml_L_27 : Cond.methodLink RL 27 yX4_ticks ∈ lw_g := mg 301 (by decide +kernel) (by decide +kernel)
set_option maxRecDepth 20000 in
theorem m_im_X4_ticks : Cond.instanceMethod yX4_ticks ∈ lw_g := mg 302 (by decide +kernel) (by decide +kernel)
set_option maxRecDepth 20000 in
theorem m_se_X4_ticks : Cond.selects RX4 yX4_ticks yX4_ticks ∈ lw_g := mg 303 (by decide +kernel) (by decide +kernel)
set_option maxRecDepth 20000 in
theorem m_co_X4_ticks : Cond.code yX4_ticks cX4_ticks 4 (some .int) ∈ lw_g := mg 304 rfl rfl
set_option maxRecDepth 20000 in
theorem m_ml_X4_81 : Cond.methodLink RX4 81 yX0_tick ∈ lw_g := mg 305 (by decide +kernel) (by decide +kernel)
set_option maxRecDepth 20000 in
theorem m_im_X0_tick : Cond.instanceMethod yX0_tick ∈ lw_g := mg 306 (by decide +kernel) (by decide +kernel)
set_option maxRecDepth 20000 in
theorem m_se_X0_tick : Cond.selects RX0 yX0_tick yX0_tick ∈ lw_g := mg 307 (by decide +kernel) (by decide +kernel)
set_option maxRecDepth 20000 in
theorem m_co_X0_tick : Cond.code yX0_tick cX0_tick 3 (some .int) ∈ lw_g := mg 308 rfl rfl
set_option maxRecDepth 20000 in
theorem m_ml_X0_101 : Cond.methodLink RX0 101 yX0_writeBack ∈ lw_g := mg 309 (by decide +kernel) (by decide +kernel)
set_option maxRecDepth 20000 in
theorem m_im_X0_writeBack : Cond.instanceMethod yX0_writeBack ∈ lw_g := mg 311 (by decide +kernel) (by decide +kernel)
set_option maxRecDepth 20000 in
theorem m_co_X0_writeBack : Cond.code yX0_writeBack cX0_writeBack 4 none ∈ lw_g := mg 312 rfl rfl
set_option maxRecDepth 20000 in
theorem m_ml_X0_113 : Cond.methodLink RX0 113 yX0_addOneTo ∈ lw_g := mg 313 (by decide +kernel) (by decide +kernel)
set_option maxRecDepth 20000 in
theorem m_im_X0_addOneTo : Cond.instanceMethod yX0_addOneTo ∈ lw_g := mg 314 (by decide +kernel) (by decide +kernel)
set_option maxRecDepth 20000 in
theorem m_se_X0_addOneTo : Cond.selects RX0 yX0_addOneTo yX0_addOneTo ∈ lw_g := mg 315 (by decide +kernel) (by decide +kernel)
set_option maxRecDepth 20000 in
theorem m_co_X0_addOneTo : Cond.code yX0_addOneTo cX0_addOneTo 3 none ∈ lw_g := mg 316 rfl rfl
set_option maxRecDepth 20000 in
theorem m_ml_X0_105 : Cond.methodLink RX0 105 yX0_nextToGrant ∈ lw_g := mg 317 (by decide +kernel) (by decide +kernel)
set_option maxRecDepth 20000 in
theorem m_im_X0_nextToGrant : Cond.instanceMethod yX0_nextToGrant ∈ lw_g := mg 319 (by decide +kernel) (by decide +kernel)
set_option maxRecDepth 20000 in
theorem m_co_X0_nextToGrant : Cond.code yX0_nextToGrant cX0_nextToGrant 4 (some .int) ∈ lw_g := mg 320 rfl rfl
set_option maxRecDepth 20000 in
theorem m_ml_X0_117 : Cond.methodLink RX0 117 yX0_isReady ∈ lw_g := mg 321 (by decide +kernel) (by decide +kernel)
set_option maxRecDepth 20000 in
theorem m_im_X0_isReady : Cond.instanceMethod yX0_isReady ∈ lw_g := mg 322 (by decide +kernel) (by decide +kernel)
set_option maxRecDepth 20000 in
theorem m_se_X0_isReady : Cond.selects RX0 yX0_isReady yX0_isReady ∈ lw_g := mg 323 (by decide +kernel) (by decide +kernel)
set_option maxRecDepth 20000 in
theorem m_co_X0_isReady : Cond.code yX0_isReady cX0_isReady 3 (some .boolean) ∈ lw_g := mg 324 rfl rfl
set_option maxRecDepth 20000 in
theorem m_ml_X0_76 : Cond.methodLink RX0 76 yX0_presentOf ∈ lw_g := mg 325 (by decide +kernel) (by decide +kernel)
set_option maxRecDepth 20000 in
theorem m_im_X0_presentOf : Cond.instanceMethod yX0_presentOf ∈ lw_g := mg 326 (by decide +kernel) (by decide +kernel)
set_option maxRecDepth 20000 in
theorem m_se_X0_presentOf : Cond.selects RX0 yX0_presentOf yX0_presentOf ∈ lw_g := mg 327 (by decide +kernel) (by decide +kernel)
set_option maxRecDepth 20000 in
theorem m_co_X0_presentOf : Cond.code yX0_presentOf cX0_presentOf 3 (some .int) ∈ lw_g := mg 328 rfl rfl
set_option maxRecDepth 20000 in
theorem m_ml_X0_57 : Cond.methodLink RX0 57 yX0_isToCarry ∈ lw_g := mg 329 (by decide +kernel) (by decide +kernel)
set_option maxRecDepth 20000 in
theorem m_im_X0_isToCarry : Cond.instanceMethod yX0_isToCarry ∈ lw_g := mg 330 (by decide +kernel) (by decide +kernel)
set_option maxRecDepth 20000 in
theorem m_se_X0_isToCarry : Cond.selects RX0 yX0_isToCarry yX0_isToCarry ∈ lw_g := mg 331 (by decide +kernel) (by decide +kernel)
set_option maxRecDepth 20000 in
theorem m_co_X0_isToCarry : Cond.code yX0_isToCarry cX0_isToCarry 3 (some .boolean) ∈ lw_g := mg 332 rfl rfl
set_option maxRecDepth 20000 in
theorem m_ml_X0_109 : Cond.methodLink RX0 109 yX0_grant ∈ lw_g := mg 333 (by decide +kernel) (by decide +kernel)
set_option maxRecDepth 20000 in
theorem m_im_X0_grant : Cond.instanceMethod yX0_grant ∈ lw_g := mg 335 (by decide +kernel) (by decide +kernel)
set_option maxRecDepth 20000 in
theorem m_co_X0_grant : Cond.code yX0_grant cX0_grant 6 none ∈ lw_g := mg 336 rfl rfl
set_option maxRecDepth 20000 in
theorem m_ml_X0_120 : Cond.methodLink RX0 120 yJ9_min_7cf53 ∈ lw_g := mg 337 (by decide +kernel) (by decide +kernel)
set_option maxRecDepth 20000 in
theorem m_ml_X0_123 : Cond.methodLink RX0 123 yX0_carry ∈ lw_g := mg 338 (by decide +kernel) (by decide +kernel)
set_option maxRecDepth 20000 in
theorem m_im_X0_carry : Cond.instanceMethod yX0_carry ∈ lw_g := mg 340 (by decide +kernel) (by decide +kernel)
set_option maxRecDepth 20000 in
theorem m_co_X0_carry : Cond.code yX0_carry cX0_carry 5 none ∈ lw_g := mg 341 rfl rfl
set_option maxRecDepth 20000 in
theorem m_ml_X0_53 : Cond.methodLink RX0 53 yX0_addressOf ∈ lw_g := mg 342 (by decide +kernel) (by decide +kernel)
set_option maxRecDepth 20000 in
theorem m_im_X0_addressOf : Cond.instanceMethod yX0_addressOf ∈ lw_g := mg 343 (by decide +kernel) (by decide +kernel)
set_option maxRecDepth 20000 in
theorem m_se_X0_addressOf : Cond.selects RX0 yX0_addressOf yX0_addressOf ∈ lw_g := mg 344 (by decide +kernel) (by decide +kernel)
set_option maxRecDepth 20000 in
theorem m_co_X0_addressOf : Cond.code yX0_addressOf cX0_addressOf 8 (some .int) ∈ lw_g := mg 345 rfl rfl
set_option maxRecDepth 20000 in
theorem m_ml_X0_44 : Cond.methodLink RX0 44 yJ9_floorMod_7cf53 ∈ lw_g := mg 346 (by decide +kernel) (by decide +kernel)
set_option maxRecDepth 20000 in
theorem m_st_J9_floorMod_7cf53 : Cond.static yJ9_floorMod_7cf53 ∈ lw_g := mg 347 (by decide +kernel) (by decide +kernel)
set_option maxRecDepth 20000 in
theorem m_co_J9_floorMod_7cf53 : Cond.code yJ9_floorMod_7cf53 cJ9_floorMod_7cf53 3 (some .int) ∈ lw_g := mg 348 rfl rfl
set_option maxRecDepth 20000 in
theorem m_ml_X0_126 : Cond.methodLink RX0 126 yX0_letWait ∈ lw_g := mg 349 (by decide +kernel) (by decide +kernel)
set_option maxRecDepth 20000 in
theorem m_im_X0_letWait : Cond.instanceMethod yX0_letWait ∈ lw_g := mg 351 (by decide +kernel) (by decide +kernel)
set_option maxRecDepth 20000 in
theorem m_co_X0_letWait : Cond.code yX0_letWait cX0_letWait 3 none ∈ lw_g := mg 352 rfl rfl
set_option maxRecDepth 20000 in
theorem m_ml_L_31 : Cond.methodLink RL 31 yX4_cancels ∈ lw_g := mg 353 (by decide +kernel) (by decide +kernel)
set_option maxRecDepth 20000 in
theorem m_im_X4_cancels : Cond.instanceMethod yX4_cancels ∈ lw_g := mg 354 (by decide +kernel) (by decide +kernel)
set_option maxRecDepth 20000 in
theorem m_se_X4_cancels : Cond.selects RX4 yX4_cancels yX4_cancels ∈ lw_g := mg 355 (by decide +kernel) (by decide +kernel)
set_option maxRecDepth 20000 in
theorem m_co_X4_cancels : Cond.code yX4_cancels cX4_cancels 2 (some .int) ∈ lw_g := mg 356 rfl rfl
set_option maxRecDepth 20000 in
theorem m_ml_X4_85 : Cond.methodLink RX4 85 yX4_isChannel ∈ lw_g := mg 357 (by decide +kernel) (by decide +kernel)
set_option maxRecDepth 20000 in
theorem m_st_X4_isChannel : Cond.static yX4_isChannel ∈ lw_g := mg 358 (by decide +kernel) (by decide +kernel)
set_option maxRecDepth 20000 in
theorem m_co_X4_isChannel : Cond.code yX4_isChannel cX4_isChannel 1 (some .boolean) ∈ lw_g := mg 359 rfl rfl
set_option maxRecDepth 20000 in
theorem m_ml_X4_88 : Cond.methodLink RX4 88 yX0_presentOf ∈ lw_g := mg 360 (by decide +kernel) (by decide +kernel)
set_option maxRecDepth 20000 in
theorem m_ml_X4_92 : Cond.methodLink RX4 92 yX0_cancel ∈ lw_g := mg 361 (by decide +kernel) (by decide +kernel)
set_option maxRecDepth 20000 in
theorem m_im_X0_cancel : Cond.instanceMethod yX0_cancel ∈ lw_g := mg 362 (by decide +kernel) (by decide +kernel)
set_option maxRecDepth 20000 in
theorem m_se_X0_cancel : Cond.selects RX0 yX0_cancel yX0_cancel ∈ lw_g := mg 363 (by decide +kernel) (by decide +kernel)
set_option maxRecDepth 20000 in
theorem m_co_X0_cancel : Cond.code yX0_cancel cX0_cancel 7 (some .int) ∈ lw_g := mg 364 rfl rfl
set_option maxRecDepth 20000 in
theorem m_ml_X0_129 : Cond.methodLink RX0 129 yX0_writeBackAllOf ∈ lw_g := mg 365 (by decide +kernel) (by decide +kernel)
set_option maxRecDepth 20000 in
theorem m_im_X0_writeBackAllOf : Cond.instanceMethod yX0_writeBackAllOf ∈ lw_g := mg 367 (by decide +kernel) (by decide +kernel)
set_option maxRecDepth 20000 in
theorem m_co_X0_writeBackAllOf : Cond.code yX0_writeBackAllOf cX0_writeBackAllOf 4 none ∈ lw_g := mg 368 rfl rfl
set_option maxRecDepth 20000 in
theorem m_ml_L_35 : Cond.methodLink RL 35 yX4_switches ∈ lw_g := mg 369 (by decide +kernel) (by decide +kernel)
set_option maxRecDepth 20000 in
theorem m_im_X4_switches : Cond.instanceMethod yX4_switches ∈ lw_g := mg 370 (by decide +kernel) (by decide +kernel)
set_option maxRecDepth 20000 in
theorem m_se_X4_switches : Cond.selects RX4 yX4_switches yX4_switches ∈ lw_g := mg 371 (by decide +kernel) (by decide +kernel)
set_option maxRecDepth 20000 in
theorem m_co_X4_switches : Cond.code yX4_switches cX4_switches 3 (some .int) ∈ lw_g := mg 372 rfl rfl
set_option maxRecDepth 20000 in
theorem m_ml_X4_95 : Cond.methodLink RX4 95 yX0_ofChannel ∈ lw_g := mg 373 (by decide +kernel) (by decide +kernel)
set_option maxRecDepth 20000 in
theorem m_ml_X4_99 : Cond.methodLink RX4 99 yX0_setChannel ∈ lw_g := mg 374 (by decide +kernel) (by decide +kernel)
set_option maxRecDepth 20000 in
theorem m_ml_L_39 : Cond.methodLink RL 39 yX4_tunes ∈ lw_g := mg 375 (by decide +kernel) (by decide +kernel)
set_option maxRecDepth 20000 in
theorem m_im_X4_tunes : Cond.instanceMethod yX4_tunes ∈ lw_g := mg 376 (by decide +kernel) (by decide +kernel)
set_option maxRecDepth 20000 in
theorem m_se_X4_tunes : Cond.selects RX4 yX4_tunes yX4_tunes ∈ lw_g := mg 377 (by decide +kernel) (by decide +kernel)
set_option maxRecDepth 20000 in
theorem m_co_X4_tunes : Cond.code yX4_tunes cX4_tunes 4 (some .int) ∈ lw_g := mg 378 rfl rfl
set_option maxRecDepth 20000 in
theorem m_ml_L_44 : Cond.methodLink RL 44 yX4_undo ∈ lw_g := mg 379 (by decide +kernel) (by decide +kernel)
set_option maxRecDepth 20000 in
theorem m_im_X4_undo : Cond.instanceMethod yX4_undo ∈ lw_g := mg 380 (by decide +kernel) (by decide +kernel)
set_option maxRecDepth 20000 in
theorem m_se_X4_undo : Cond.selects RX4 yX4_undo yX4_undo ∈ lw_g := mg 381 (by decide +kernel) (by decide +kernel)
set_option maxRecDepth 20000 in
theorem m_co_X4_undo : Cond.code yX4_undo cX4_undo 1 (some .int) ∈ lw_g := mg 382 rfl rfl
set_option maxRecDepth 20000 in
theorem m_ml_X4_103 : Cond.methodLink RX4 103 yX1_restore ∈ lw_g := mg 383 (by decide +kernel) (by decide +kernel)
set_option maxRecDepth 20000 in
theorem m_im_X1_restore : Cond.instanceMethod yX1_restore ∈ lw_g := mg 384 (by decide +kernel) (by decide +kernel)
set_option maxRecDepth 20000 in
theorem m_se_X1_restore : Cond.selects RX1 yX1_restore yX1_restore ∈ lw_g := mg 385 (by decide +kernel) (by decide +kernel)
set_option maxRecDepth 20000 in
theorem m_co_X1_restore : Cond.code yX1_restore cX1_restore 2 (some .boolean) ∈ lw_g := mg 386 rfl rfl
set_option maxRecDepth 20000 in
theorem m_ml_L_48 : Cond.methodLink RL 48 yX4_at ∈ lw_g := mg 387 (by decide +kernel) (by decide +kernel)
set_option maxRecDepth 20000 in
theorem m_im_X4_at : Cond.instanceMethod yX4_at ∈ lw_g := mg 388 (by decide +kernel) (by decide +kernel)
set_option maxRecDepth 20000 in
theorem m_se_X4_at : Cond.selects RX4 yX4_at yX4_at ∈ lw_g := mg 389 (by decide +kernel) (by decide +kernel)
set_option maxRecDepth 20000 in
theorem m_co_X4_at : Cond.code yX4_at cX4_at 2 (some .int) ∈ lw_g := mg 390 rfl rfl
set_option maxRecDepth 20000 in
theorem m_ml_L_52 : Cond.methodLink RL 52 yX4_channel ∈ lw_g := mg 391 (by decide +kernel) (by decide +kernel)
set_option maxRecDepth 20000 in
theorem m_im_X4_channel : Cond.instanceMethod yX4_channel ∈ lw_g := mg 392 (by decide +kernel) (by decide +kernel)
set_option maxRecDepth 20000 in
theorem m_se_X4_channel : Cond.selects RX4 yX4_channel yX4_channel ∈ lw_g := mg 393 (by decide +kernel) (by decide +kernel)
set_option maxRecDepth 20000 in
theorem m_co_X4_channel : Cond.code yX4_channel cX4_channel 3 (some .int) ∈ lw_g := mg 394 rfl rfl
set_option maxRecDepth 20000 in
theorem m_ml_X4_114 : Cond.methodLink RX4 114 yX4_presentResidue ∈ lw_g := mg 395 (by decide +kernel) (by decide +kernel)
set_option maxRecDepth 20000 in
theorem m_im_X4_presentResidue : Cond.instanceMethod yX4_presentResidue ∈ lw_g := mg 397 (by decide +kernel) (by decide +kernel)
set_option maxRecDepth 20000 in
theorem m_co_X4_presentResidue : Cond.code yX4_presentResidue cX4_presentResidue 3 (some .int) ∈ lw_g := mg 398 rfl rfl
set_option maxRecDepth 20000 in
theorem m_ml_X4_130 : Cond.methodLink RX4 130 yX0_ofLetter ∈ lw_g := mg 399 (by decide +kernel) (by decide +kernel)
set_option maxRecDepth 20000 in
theorem m_ml_X4_117 : Cond.methodLink RX4 117 yX0_isReady ∈ lw_g := mg 400 (by decide +kernel) (by decide +kernel)
set_option maxRecDepth 20000 in
theorem m_ml_L_57 : Cond.methodLink RL 57 yX4_slot ∈ lw_g := mg 401 (by decide +kernel) (by decide +kernel)
set_option maxRecDepth 20000 in
theorem m_im_X4_slot : Cond.instanceMethod yX4_slot ∈ lw_g := mg 402 (by decide +kernel) (by decide +kernel)
set_option maxRecDepth 20000 in
theorem m_se_X4_slot : Cond.selects RX4 yX4_slot yX4_slot ∈ lw_g := mg 403 (by decide +kernel) (by decide +kernel)
set_option maxRecDepth 20000 in
theorem m_co_X4_slot : Cond.code yX4_slot cX4_slot 5 (some .int) ∈ lw_g := mg 404 rfl rfl
set_option maxRecDepth 20000 in
theorem m_ml_X4_120 : Cond.methodLink RX4 120 yX4_isSlot ∈ lw_g := mg 405 (by decide +kernel) (by decide +kernel)
set_option maxRecDepth 20000 in
theorem m_st_X4_isSlot : Cond.static yX4_isSlot ∈ lw_g := mg 406 (by decide +kernel) (by decide +kernel)
set_option maxRecDepth 20000 in
theorem m_co_X4_isSlot : Cond.code yX4_isSlot cX4_isSlot 2 (some .boolean) ∈ lw_g := mg 407 rfl rfl
set_option maxRecDepth 20000 in
theorem m_ml_X4_124 : Cond.methodLink RX4 124 yX0_placeOf ∈ lw_g := mg 408 (by decide +kernel) (by decide +kernel)
set_option maxRecDepth 20000 in
theorem m_ml_X4_127 : Cond.methodLink RX4 127 yX0_hasLetter ∈ lw_g := mg 409 (by decide +kernel) (by decide +kernel)
set_option maxRecDepth 20000 in
theorem m_im_X0_hasLetter : Cond.instanceMethod yX0_hasLetter ∈ lw_g := mg 410 (by decide +kernel) (by decide +kernel)
set_option maxRecDepth 20000 in
theorem m_se_X0_hasLetter : Cond.selects RX0 yX0_hasLetter yX0_hasLetter ∈ lw_g := mg 411 (by decide +kernel) (by decide +kernel)
set_option maxRecDepth 20000 in
theorem m_co_X0_hasLetter : Cond.code yX0_hasLetter cX0_hasLetter 2 (some .boolean) ∈ lw_g := mg 412 rfl rfl
set_option maxRecDepth 20000 in
theorem m_ml_X4_133 : Cond.methodLink RX4 133 yX0_unitsOf ∈ lw_g := mg 413 (by decide +kernel) (by decide +kernel)
set_option maxRecDepth 20000 in
theorem m_ml_L_61 : Cond.methodLink RL 61 yX4_unit ∈ lw_g := mg 414 (by decide +kernel) (by decide +kernel)
set_option maxRecDepth 20000 in
theorem m_im_X4_unit : Cond.instanceMethod yX4_unit ∈ lw_g := mg 415 (by decide +kernel) (by decide +kernel)
set_option maxRecDepth 20000 in
theorem m_se_X4_unit : Cond.selects RX4 yX4_unit yX4_unit ∈ lw_g := mg 416 (by decide +kernel) (by decide +kernel)
set_option maxRecDepth 20000 in
theorem m_co_X4_unit : Cond.code yX4_unit cX4_unit 6 (some .int) ∈ lw_g := mg 417 rfl rfl
set_option maxRecDepth 20000 in
theorem m_ml_X4_136 : Cond.methodLink RX4 136 yX0_addressOf ∈ lw_g := mg 418 (by decide +kernel) (by decide +kernel)
set_option maxRecDepth 20000 in
theorem m_ml_L_66 : Cond.methodLink RL 66 yX4_waiting ∈ lw_g := mg 419 (by decide +kernel) (by decide +kernel)
set_option maxRecDepth 20000 in
theorem m_im_X4_waiting : Cond.instanceMethod yX4_waiting ∈ lw_g := mg 420 (by decide +kernel) (by decide +kernel)
set_option maxRecDepth 20000 in
theorem m_se_X4_waiting : Cond.selects RX4 yX4_waiting yX4_waiting ∈ lw_g := mg 421 (by decide +kernel) (by decide +kernel)
set_option maxRecDepth 20000 in
theorem m_co_X4_waiting : Cond.code yX4_waiting cX4_waiting 3 (some .int) ∈ lw_g := mg 422 rfl rfl
set_option maxRecDepth 20000 in
theorem m_ml_L_70 : Cond.methodLink RL 70 yX4_both ∈ lw_g := mg 423 (by decide +kernel) (by decide +kernel)
set_option maxRecDepth 20000 in
theorem m_im_X4_both : Cond.instanceMethod yX4_both ∈ lw_g := mg 424 (by decide +kernel) (by decide +kernel)
set_option maxRecDepth 20000 in
theorem m_se_X4_both : Cond.selects RX4 yX4_both yX4_both ∈ lw_g := mg 425 (by decide +kernel) (by decide +kernel)
set_option maxRecDepth 20000 in
theorem m_co_X4_both : Cond.code yX4_both cX4_both 7 (some .int) ∈ lw_g := mg 426 rfl rfl
set_option maxRecDepth 20000 in
theorem m_ml_X4_146 : Cond.methodLink RX4 146 yX0_writtenBy ∈ lw_g := mg 427 (by decide +kernel) (by decide +kernel)
set_option maxRecDepth 20000 in
theorem m_im_X0_writtenBy : Cond.instanceMethod yX0_writtenBy ∈ lw_g := mg 428 (by decide +kernel) (by decide +kernel)
set_option maxRecDepth 20000 in
theorem m_se_X0_writtenBy : Cond.selects RX0 yX0_writtenBy yX0_writtenBy ∈ lw_g := mg 429 (by decide +kernel) (by decide +kernel)
set_option maxRecDepth 20000 in
theorem m_co_X0_writtenBy : Cond.code yX0_writtenBy cX0_writtenBy 6 (some .long) ∈ lw_g := mg 430 rfl rfl
set_option maxRecDepth 20000 in
theorem m_ml_X4_150 : Cond.methodLink RX4 150 yJ13_bitCount_95d88 ∈ lw_g := mg 431 (by decide +kernel) (by decide +kernel)
set_option maxRecDepth 20000 in
theorem m_st_J13_bitCount_95d88 : Cond.static yJ13_bitCount_95d88 ∈ lw_g := mg 432 (by decide +kernel) (by decide +kernel)
set_option maxRecDepth 20000 in
theorem m_co_J13_bitCount_95d88 : Cond.code yJ13_bitCount_95d88 cJ13_bitCount_95d88 2 (some .int) ∈ lw_g := mg 433 rfl rfl
set_option maxRecDepth 20000 in
theorem m_kl_314 : Cond.constantLong RJ13 314 6148914691236517205 ∈ lw_g := mg 434 (by decide +kernel) (by decide +kernel)
set_option maxRecDepth 20000 in
theorem m_kl_316 : Cond.constantLong RJ13 316 3689348814741910323 ∈ lw_g := mg 435 (by decide +kernel) (by decide +kernel)
set_option maxRecDepth 20000 in
theorem m_kl_318 : Cond.constantLong RJ13 318 1085102592571150095 ∈ lw_g := mg 436 (by decide +kernel) (by decide +kernel)
set_option maxRecDepth 20000 in
theorem m_ml_L_74 : Cond.methodLink RL 74 yX4_over ∈ lw_g := mg 437 (by decide +kernel) (by decide +kernel)
set_option maxRecDepth 20000 in
theorem m_im_X4_over : Cond.instanceMethod yX4_over ∈ lw_g := mg 438 (by decide +kernel) (by decide +kernel)
set_option maxRecDepth 20000 in
theorem m_se_X4_over : Cond.selects RX4 yX4_over yX4_over ∈ lw_g := mg 439 (by decide +kernel) (by decide +kernel)
set_option maxRecDepth 20000 in
theorem m_co_X4_over : Cond.code yX4_over cX4_over 2 (some .int) ∈ lw_g := mg 440 rfl rfl
set_option maxRecDepth 20000 in
theorem m_ml_X4_156 : Cond.methodLink RX4 156 yX4_ticksUntilOver ∈ lw_g := mg 441 (by decide +kernel) (by decide +kernel)
set_option maxRecDepth 20000 in
theorem m_im_X4_ticksUntilOver : Cond.instanceMethod yX4_ticksUntilOver ∈ lw_g := mg 443 (by decide +kernel) (by decide +kernel)
set_option maxRecDepth 20000 in
theorem m_co_X4_ticksUntilOver : Cond.code yX4_ticksUntilOver cX4_ticksUntilOver 6 (some .int) ∈ lw_g := mg 444 rfl rfl
set_option maxRecDepth 20000 in
theorem m_ml_X4_186 : Cond.methodLink RX4 186 yX0_engineLettersOf ∈ lw_g := mg 445 (by decide +kernel) (by decide +kernel)
set_option maxRecDepth 20000 in
theorem m_im_X0_engineLettersOf : Cond.instanceMethod yX0_engineLettersOf ∈ lw_g := mg 446 (by decide +kernel) (by decide +kernel)
set_option maxRecDepth 20000 in
theorem m_se_X0_engineLettersOf : Cond.selects RX0 yX0_engineLettersOf yX0_engineLettersOf ∈ lw_g := mg 447 (by decide +kernel) (by decide +kernel)
set_option maxRecDepth 20000 in
theorem m_co_X0_engineLettersOf : Cond.code yX0_engineLettersOf cX0_engineLettersOf 4 (some .int) ∈ lw_g := mg 448 rfl rfl
set_option maxRecDepth 20000 in
theorem m_ml_L_78 : Cond.methodLink RL 78 yX4_lands ∈ lw_g := mg 449 (by decide +kernel) (by decide +kernel)
set_option maxRecDepth 20000 in
theorem m_im_X4_lands : Cond.instanceMethod yX4_lands ∈ lw_g := mg 450 (by decide +kernel) (by decide +kernel)
set_option maxRecDepth 20000 in
theorem m_se_X4_lands : Cond.selects RX4 yX4_lands yX4_lands ∈ lw_g := mg 451 (by decide +kernel) (by decide +kernel)
set_option maxRecDepth 20000 in
theorem m_co_X4_lands : Cond.code yX4_lands cX4_lands 2 (some .int) ∈ lw_g := mg 452 rfl rfl
set_option maxRecDepth 20000 in
theorem m_ml_X4_159 : Cond.methodLink RX4 159 yX0_unitsBoundFor ∈ lw_g := mg 453 (by decide +kernel) (by decide +kernel)
set_option maxRecDepth 20000 in
theorem m_im_X0_unitsBoundFor : Cond.instanceMethod yX0_unitsBoundFor ∈ lw_g := mg 454 (by decide +kernel) (by decide +kernel)
set_option maxRecDepth 20000 in
theorem m_se_X0_unitsBoundFor : Cond.selects RX0 yX0_unitsBoundFor yX0_unitsBoundFor ∈ lw_g := mg 455 (by decide +kernel) (by decide +kernel)
set_option maxRecDepth 20000 in
theorem m_co_X0_unitsBoundFor : Cond.code yX0_unitsBoundFor cX0_unitsBoundFor 4 (some .int) ∈ lw_g := mg 456 rfl rfl
set_option maxRecDepth 20000 in
theorem m_ml_X0_61 : Cond.methodLink RX0 61 yX0_uncarriedBoundFor ∈ lw_g := mg 457 (by decide +kernel) (by decide +kernel)
set_option maxRecDepth 20000 in
theorem m_im_X0_uncarriedBoundFor : Cond.instanceMethod yX0_uncarriedBoundFor ∈ lw_g := mg 459 (by decide +kernel) (by decide +kernel)
set_option maxRecDepth 20000 in
theorem m_co_X0_uncarriedBoundFor : Cond.code yX0_uncarriedBoundFor cX0_uncarriedBoundFor 6 (some .int) ∈ lw_g := mg 460 rfl rfl
set_option maxRecDepth 20000 in
theorem m_ml_L_82 : Cond.methodLink RL 82 yX4_enough ∈ lw_g := mg 461 (by decide +kernel) (by decide +kernel)
set_option maxRecDepth 20000 in
theorem m_im_X4_enough : Cond.instanceMethod yX4_enough ∈ lw_g := mg 462 (by decide +kernel) (by decide +kernel)
set_option maxRecDepth 20000 in
theorem m_se_X4_enough : Cond.selects RX4 yX4_enough yX4_enough ∈ lw_g := mg 463 (by decide +kernel) (by decide +kernel)
set_option maxRecDepth 20000 in
theorem m_co_X4_enough : Cond.code yX4_enough cX4_enough 4 (some .int) ∈ lw_g := mg 464 rfl rfl
set_option maxRecDepth 20000 in
theorem m_ml_L_86 : Cond.methodLink RL 86 yX4_granted ∈ lw_g := mg 465 (by decide +kernel) (by decide +kernel)
set_option maxRecDepth 20000 in
theorem m_im_X4_granted : Cond.instanceMethod yX4_granted ∈ lw_g := mg 466 (by decide +kernel) (by decide +kernel)
set_option maxRecDepth 20000 in
theorem m_se_X4_granted : Cond.selects RX4 yX4_granted yX4_granted ∈ lw_g := mg 467 (by decide +kernel) (by decide +kernel)
set_option maxRecDepth 20000 in
theorem m_co_X4_granted : Cond.code yX4_granted cX4_granted 3 (some .int) ∈ lw_g := mg 468 rfl rfl
set_option maxRecDepth 20000 in
theorem m_ml_L_90 : Cond.methodLink RL 90 yX4_sees ∈ lw_g := mg 469 (by decide +kernel) (by decide +kernel)
set_option maxRecDepth 20000 in
theorem m_im_X4_sees : Cond.instanceMethod yX4_sees ∈ lw_g := mg 470 (by decide +kernel) (by decide +kernel)
set_option maxRecDepth 20000 in
theorem m_se_X4_sees : Cond.selects RX4 yX4_sees yX4_sees ∈ lw_g := mg 471 (by decide +kernel) (by decide +kernel)
set_option maxRecDepth 20000 in
theorem m_co_X4_sees : Cond.code yX4_sees cX4_sees 3 (some .int) ∈ lw_g := mg 472 rfl rfl
set_option maxRecDepth 20000 in
theorem m_ml_X4_162 : Cond.methodLink RX4 162 yX2_note ∈ lw_g := mg 473 (by decide +kernel) (by decide +kernel)
set_option maxRecDepth 20000 in
theorem m_im_X2_note : Cond.instanceMethod yX2_note ∈ lw_g := mg 474 (by decide +kernel) (by decide +kernel)
set_option maxRecDepth 20000 in
theorem m_se_X2_note : Cond.selects RX2 yX2_note yX2_note ∈ lw_g := mg 475 (by decide +kernel) (by decide +kernel)
set_option maxRecDepth 20000 in
theorem m_co_X2_note : Cond.code yX2_note cX2_note 3 (some .boolean) ∈ lw_g := mg 476 rfl rfl
set_option maxRecDepth 20000 in
theorem m_ml_L_94 : Cond.methodLink RL 94 yX4_forget ∈ lw_g := mg 477 (by decide +kernel) (by decide +kernel)
set_option maxRecDepth 20000 in
theorem m_im_X4_forget : Cond.instanceMethod yX4_forget ∈ lw_g := mg 478 (by decide +kernel) (by decide +kernel)
set_option maxRecDepth 20000 in
theorem m_se_X4_forget : Cond.selects RX4 yX4_forget yX4_forget ∈ lw_g := mg 479 (by decide +kernel) (by decide +kernel)
set_option maxRecDepth 20000 in
theorem m_co_X4_forget : Cond.code yX4_forget cX4_forget 2 (some .int) ∈ lw_g := mg 480 rfl rfl
set_option maxRecDepth 20000 in
theorem m_ml_X4_168 : Cond.methodLink RX4 168 yX2_drop ∈ lw_g := mg 481 (by decide +kernel) (by decide +kernel)
set_option maxRecDepth 20000 in
theorem m_im_X2_drop : Cond.instanceMethod yX2_drop ∈ lw_g := mg 482 (by decide +kernel) (by decide +kernel)
set_option maxRecDepth 20000 in
theorem m_se_X2_drop : Cond.selects RX2 yX2_drop yX2_drop ∈ lw_g := mg 483 (by decide +kernel) (by decide +kernel)
set_option maxRecDepth 20000 in
theorem m_co_X2_drop : Cond.code yX2_drop cX2_drop 1 none ∈ lw_g := mg 484 rfl rfl
set_option maxRecDepth 20000 in
theorem m_ml_L_98 : Cond.methodLink RL 98 yX4_ranks ∈ lw_g := mg 485 (by decide +kernel) (by decide +kernel)
set_option maxRecDepth 20000 in
theorem m_im_X4_ranks : Cond.instanceMethod yX4_ranks ∈ lw_g := mg 486 (by decide +kernel) (by decide +kernel)
set_option maxRecDepth 20000 in
theorem m_se_X4_ranks : Cond.selects RX4 yX4_ranks yX4_ranks ∈ lw_g := mg 487 (by decide +kernel) (by decide +kernel)
set_option maxRecDepth 20000 in
theorem m_co_X4_ranks : Cond.code yX4_ranks cX4_ranks 4 (some .int) ∈ lw_g := mg 488 rfl rfl
set_option maxRecDepth 20000 in
theorem m_ml_X4_171 : Cond.methodLink RX4 171 yX2_comeTrue ∈ lw_g := mg 489 (by decide +kernel) (by decide +kernel)
set_option maxRecDepth 20000 in
theorem m_im_X2_comeTrue : Cond.instanceMethod yX2_comeTrue ∈ lw_g := mg 490 (by decide +kernel) (by decide +kernel)
set_option maxRecDepth 20000 in
theorem m_se_X2_comeTrue : Cond.selects RX2 yX2_comeTrue yX2_comeTrue ∈ lw_g := mg 491 (by decide +kernel) (by decide +kernel)
set_option maxRecDepth 20000 in
theorem m_co_X2_comeTrue : Cond.code yX2_comeTrue cX2_comeTrue 4 (some .boolean) ∈ lw_g := mg 492 rfl rfl
set_option maxRecDepth 20000 in
theorem m_ml_X2_20 : Cond.methodLink RX2 20 yX2_lastTick ∈ lw_g := mg 493 (by decide +kernel) (by decide +kernel)
set_option maxRecDepth 20000 in
theorem m_im_X2_lastTick : Cond.instanceMethod yX2_lastTick ∈ lw_g := mg 495 (by decide +kernel) (by decide +kernel)
set_option maxRecDepth 20000 in
theorem m_co_X2_lastTick : Cond.code yX2_lastTick cX2_lastTick 3 (some .int) ∈ lw_g := mg 496 rfl rfl
set_option maxRecDepth 20000 in
theorem m_ml_X2_34 : Cond.methodLink RX2 34 yJ9_max_7cf53 ∈ lw_g := mg 497 (by decide +kernel) (by decide +kernel)
set_option maxRecDepth 20000 in
theorem m_st_J9_max_7cf53 : Cond.static yJ9_max_7cf53 ∈ lw_g := mg 498 (by decide +kernel) (by decide +kernel)
set_option maxRecDepth 20000 in
theorem m_co_J9_max_7cf53 : Cond.code yJ9_max_7cf53 cJ9_max_7cf53 2 (some .int) ∈ lw_g := mg 499 rfl rfl
set_option maxRecDepth 20000 in
theorem m_ml_X2_24 : Cond.methodLink RX2 24 yX0_tick ∈ lw_g := mg 500 (by decide +kernel) (by decide +kernel)
set_option maxRecDepth 20000 in
theorem m_ml_X2_30 : Cond.methodLink RX2 30 yX2_allowsInTick ∈ lw_g := mg 501 (by decide +kernel) (by decide +kernel)
set_option maxRecDepth 20000 in
theorem m_im_X2_allowsInTick : Cond.instanceMethod yX2_allowsInTick ∈ lw_g := mg 503 (by decide +kernel) (by decide +kernel)
set_option maxRecDepth 20000 in
theorem m_co_X2_allowsInTick : Cond.code yX2_allowsInTick cX2_allowsInTick 4 (some .boolean) ∈ lw_g := mg 504 rfl rfl
set_option maxRecDepth 20000 in
theorem m_ml_L_102 : Cond.methodLink RL 102 yX4_keep ∈ lw_g := mg 505 (by decide +kernel) (by decide +kernel)
set_option maxRecDepth 20000 in
theorem m_im_X4_keep : Cond.instanceMethod yX4_keep ∈ lw_g := mg 506 (by decide +kernel) (by decide +kernel)
set_option maxRecDepth 20000 in
theorem m_se_X4_keep : Cond.selects RX4 yX4_keep yX4_keep ∈ lw_g := mg 507 (by decide +kernel) (by decide +kernel)
set_option maxRecDepth 20000 in
theorem m_co_X4_keep : Cond.code yX4_keep cX4_keep 2 (some .int) ∈ lw_g := mg 508 rfl rfl
set_option maxRecDepth 20000 in
theorem m_ml_X4_174 : Cond.methodLink RX4 174 yX0_engineLetters ∈ lw_g := mg 509 (by decide +kernel) (by decide +kernel)
set_option maxRecDepth 20000 in
theorem m_im_X0_engineLetters : Cond.instanceMethod yX0_engineLetters ∈ lw_g := mg 510 (by decide +kernel) (by decide +kernel)
set_option maxRecDepth 20000 in
theorem m_se_X0_engineLetters : Cond.selects RX0 yX0_engineLetters yX0_engineLetters ∈ lw_g := mg 511 (by decide +kernel) (by decide +kernel)
set_option maxRecDepth 20000 in
theorem m_co_X0_engineLetters : Cond.code yX0_engineLetters cX0_engineLetters 3 (some .int) ∈ lw_g := mg 512 rfl rfl
set_option maxRecDepth 20000 in
theorem m_ml_X0_70 : Cond.methodLink RX0 70 yX0_engineLettersOf ∈ lw_g := mg 513 (by decide +kernel) (by decide +kernel)
set_option maxRecDepth 20000 in
theorem m_ml_L_106 : Cond.methodLink RL 106 yX4_back ∈ lw_g := mg 514 (by decide +kernel) (by decide +kernel)
set_option maxRecDepth 20000 in
theorem m_im_X4_back : Cond.instanceMethod yX4_back ∈ lw_g := mg 515 (by decide +kernel) (by decide +kernel)
set_option maxRecDepth 20000 in
theorem m_se_X4_back : Cond.selects RX4 yX4_back yX4_back ∈ lw_g := mg 516 (by decide +kernel) (by decide +kernel)
set_option maxRecDepth 20000 in
theorem m_co_X4_back : Cond.code yX4_back cX4_back 2 (some .int) ∈ lw_g := mg 517 rfl rfl
set_option maxRecDepth 20000 in
theorem m_ml_X4_177 : Cond.methodLink RX4 177 yX1_lose ∈ lw_g := mg 518 (by decide +kernel) (by decide +kernel)
set_option maxRecDepth 20000 in
theorem m_im_X1_lose : Cond.instanceMethod yX1_lose ∈ lw_g := mg 519 (by decide +kernel) (by decide +kernel)
set_option maxRecDepth 20000 in
theorem m_se_X1_lose : Cond.selects RX1 yX1_lose yX1_lose ∈ lw_g := mg 520 (by decide +kernel) (by decide +kernel)
set_option maxRecDepth 20000 in
theorem m_co_X1_lose : Cond.code yX1_lose cX1_lose 1 none ∈ lw_g := mg 521 rfl rfl
set_option maxRecDepth 20000 in
theorem m_ml_L_110 : Cond.methodLink RL 110 yX4_count ∈ lw_g := mg 522 (by decide +kernel) (by decide +kernel)
set_option maxRecDepth 20000 in
theorem m_im_X4_count : Cond.instanceMethod yX4_count ∈ lw_g := mg 523 (by decide +kernel) (by decide +kernel)
set_option maxRecDepth 20000 in
theorem m_se_X4_count : Cond.selects RX4 yX4_count yX4_count ∈ lw_g := mg 524 (by decide +kernel) (by decide +kernel)
set_option maxRecDepth 20000 in
theorem m_co_X4_count : Cond.code yX4_count cX4_count 2 (some .int) ∈ lw_g := mg 525 rfl rfl
set_option maxRecDepth 20000 in
theorem m_cl_L_10 : Cond.classLink RL 10 RX5 ∈ lw_g := mg 526 (by decide +kernel) (by decide +kernel)
set_option maxRecDepth 20000 in
theorem m_is_X5 : Cond.instantiable RX5 17 ∈ lw_g := mg 527 (by decide +kernel) (by decide +kernel)
set_option maxRecDepth 20000 in
theorem m_ml_L_12 : Cond.methodLink RL 12 yX5_init ∈ lw_g := mg 528 (by decide +kernel) (by decide +kernel)
set_option maxRecDepth 20000 in
theorem m_im_X5_init : Cond.instanceMethod yX5_init ∈ lw_g := mg 529 (by decide +kernel) (by decide +kernel)
set_option maxRecDepth 20000 in
theorem m_co_X5_init : Cond.code yX5_init cX5_init 2 none ∈ lw_g := mg 530 rfl rfl
set_option maxRecDepth 20000 in
theorem m_ml_X5_1 : Cond.methodLink RX5 1 objectInit ∈ lw_g := mg 531 (by decide +kernel) (by decide +kernel)
set_option maxRecDepth 20000 in
theorem m_fl_X5_7 : Cond.fieldLink RX5 7 "TransferRingsModel" "s" "[I" ∈ lw_g := mg 532 (by decide +kernel) (by decide +kernel)
set_option maxRecDepth 20000 in
theorem m_fl_X5_98 : Cond.fieldLink RX5 98 "TransferRingsModel" "undos" "I" ∈ lw_g := mg 533 (by decide +kernel) (by decide +kernel)
set_option maxRecDepth 20000 in
theorem m_fl_X5_13 : Cond.fieldLink RX5 13 "TransferRingsModel" "past" "[I" ∈ lw_g := mg 534 (by decide +kernel) (by decide +kernel)
set_option maxRecDepth 20000 in
theorem m_fl_X5_16 : Cond.fieldLink RX5 16 "TransferRingsModel" "isKept" "[Z" ∈ lw_g := mg 535 (by decide +kernel) (by decide +kernel)
set_option maxRecDepth 20000 in
theorem m_fl_X5_20 : Cond.fieldLink RX5 20 "TransferRingsModel" "kept" "[I" ∈ lw_g := mg 536 (by decide +kernel) (by decide +kernel)
set_option maxRecDepth 20000 in
theorem m_fl_X5_23 : Cond.fieldLink RX5 23 "TransferRingsModel" "spare" "[I" ∈ lw_g := mg 537 (by decide +kernel) (by decide +kernel)
set_option maxRecDepth 20000 in
theorem m_fl_X5_161 : Cond.fieldLink RX5 161 "TransferRingsModel" "seen" "I" ∈ lw_g := mg 538 (by decide +kernel) (by decide +kernel)
set_option maxRecDepth 20000 in
theorem m_fl_X5_26 : Cond.fieldLink RX5 26 "TransferRingsModel" "seenTick" "[I" ∈ lw_g := mg 539 (by decide +kernel) (by decide +kernel)
set_option maxRecDepth 20000 in
theorem m_fl_X5_29 : Cond.fieldLink RX5 29 "TransferRingsModel" "seenWho" "[I" ∈ lw_g := mg 540 (by decide +kernel) (by decide +kernel)
set_option maxRecDepth 20000 in
theorem m_fl_X5_42 : Cond.fieldLink RX5 42 "TransferRingsModel" "letters" "I" ∈ lw_g := mg 541 (by decide +kernel) (by decide +kernel)
set_option maxRecDepth 20000 in
theorem m_fl_X5_32 : Cond.fieldLink RX5 32 "TransferRingsModel" "text" "[I" ∈ lw_g := mg 542 (by decide +kernel) (by decide +kernel)
set_option maxRecDepth 20000 in
theorem m_fl_X5_46 : Cond.fieldLink RX5 46 "TransferRingsModel" "next" "I" ∈ lw_g := mg 543 (by decide +kernel) (by decide +kernel)
set_option maxRecDepth 20000 in
theorem m_fl_X5_59 : Cond.fieldLink RX5 59 "TransferRingsModel" "place" "I" ∈ lw_g := mg 544 (by decide +kernel) (by decide +kernel)
set_option maxRecDepth 20000 in
theorem m_fl_X5_53 : Cond.fieldLink RX5 53 "TransferRingsModel" "token" "I" ∈ lw_g := mg 545 (by decide +kernel) (by decide +kernel)
set_option maxRecDepth 20000 in
theorem m_fl_X5_56 : Cond.fieldLink RX5 56 "TransferRingsModel" "value" "I" ∈ lw_g := mg 546 (by decide +kernel) (by decide +kernel)
set_option maxRecDepth 20000 in
theorem m_fl_X5_35 : Cond.fieldLink RX5 35 "TransferRingsModel" "read" "[I" ∈ lw_g := mg 547 (by decide +kernel) (by decide +kernel)
set_option maxRecDepth 20000 in
theorem m_fl_X5_89 : Cond.fieldLink RX5 89 "TransferRingsModel" "items" "I" ∈ lw_g := mg 548 (by decide +kernel) (by decide +kernel)
set_option maxRecDepth 20000 in
theorem m_ml_L_17 : Cond.methodLink RL 17 yX5_type ∈ lw_g := mg 584 (by decide +kernel) (by decide +kernel)
set_option maxRecDepth 20000 in
theorem m_im_X5_type : Cond.instanceMethod yX5_type ∈ lw_g := mg 585 (by decide +kernel) (by decide +kernel)
set_option maxRecDepth 20000 in
theorem m_se_X5_type : Cond.selects RX5 yX5_type yX5_type ∈ lw_g := mg 586 (by decide +kernel) (by decide +kernel)
set_option maxRecDepth 20000 in
theorem m_co_X5_type : Cond.code yX5_type cX5_type 2 (some .int) ∈ lw_g := mg 587 rfl rfl
set_option maxRecDepth 20000 in
theorem m_ml_X5_38 : Cond.methodLink RX5 38 yX5_in ∈ lw_g := mg 588 (by decide +kernel) (by decide +kernel)
set_option maxRecDepth 20000 in
theorem m_st_X5_in : Cond.static yX5_in ∈ lw_g := mg 589 (by decide +kernel) (by decide +kernel)
set_option maxRecDepth 20000 in
theorem m_co_X5_in : Cond.code yX5_in cX5_in 3 (some .boolean) ∈ lw_g := mg 590 rfl rfl
set_option maxRecDepth 20000 in
theorem m_ml_L_22 : Cond.methodLink RL 22 yX5_clear ∈ lw_g := mg 591 (by decide +kernel) (by decide +kernel)
set_option maxRecDepth 20000 in
theorem m_im_X5_clear : Cond.instanceMethod yX5_clear ∈ lw_g := mg 592 (by decide +kernel) (by decide +kernel)
set_option maxRecDepth 20000 in
theorem m_se_X5_clear : Cond.selects RX5 yX5_clear yX5_clear ∈ lw_g := mg 593 (by decide +kernel) (by decide +kernel)
set_option maxRecDepth 20000 in
theorem m_co_X5_clear : Cond.code yX5_clear cX5_clear 2 (some .int) ∈ lw_g := mg 594 rfl rfl
set_option maxRecDepth 20000 in
theorem m_ml_L_26 : Cond.methodLink RL 26 yX5_posts ∈ lw_g := mg 595 (by decide +kernel) (by decide +kernel)
set_option maxRecDepth 20000 in
theorem m_im_X5_posts : Cond.instanceMethod yX5_posts ∈ lw_g := mg 596 (by decide +kernel) (by decide +kernel)
set_option maxRecDepth 20000 in
theorem m_se_X5_posts : Cond.selects RX5 yX5_posts yX5_posts ∈ lw_g := mg 597 (by decide +kernel) (by decide +kernel)
set_option maxRecDepth 20000 in
theorem m_co_X5_posts : Cond.code yX5_posts cX5_posts 1 (some .int) ∈ lw_g := mg 598 rfl rfl
set_option maxRecDepth 20000 in
theorem m_ml_X5_101 : Cond.methodLink RX5 101 yX5_goesThrough ∈ lw_g := mg 599 (by decide +kernel) (by decide +kernel)
set_option maxRecDepth 20000 in
theorem m_im_X5_goesThrough : Cond.instanceMethod yX5_goesThrough ∈ lw_g := mg 601 (by decide +kernel) (by decide +kernel)
set_option maxRecDepth 20000 in
theorem m_co_X5_goesThrough : Cond.code yX5_goesThrough cX5_goesThrough 4 (some .boolean) ∈ lw_g := mg 602 rfl rfl
set_option maxRecDepth 20000 in
theorem m_ml_X5_65 : Cond.methodLink RX5 65 yX5_takes ∈ lw_g := mg 603 (by decide +kernel) (by decide +kernel)
set_option maxRecDepth 20000 in
theorem m_im_X5_takes : Cond.instanceMethod yX5_takes ∈ lw_g := mg 605 (by decide +kernel) (by decide +kernel)
set_option maxRecDepth 20000 in
theorem m_co_X5_takes : Cond.code yX5_takes cX5_takes 1 none ∈ lw_g := mg 606 rfl rfl
set_option maxRecDepth 20000 in
theorem m_ml_X5_49 : Cond.methodLink RX5 49 yX5_isFigure ∈ lw_g := mg 607 (by decide +kernel) (by decide +kernel)
set_option maxRecDepth 20000 in
theorem m_im_X5_isFigure : Cond.instanceMethod yX5_isFigure ∈ lw_g := mg 609 (by decide +kernel) (by decide +kernel)
set_option maxRecDepth 20000 in
theorem m_co_X5_isFigure : Cond.code yX5_isFigure cX5_isFigure 2 (some .boolean) ∈ lw_g := mg 610 rfl rfl
set_option maxRecDepth 20000 in
theorem m_ml_X5_62 : Cond.methodLink RX5 62 yX5_takesNumber ∈ lw_g := mg 611 (by decide +kernel) (by decide +kernel)
set_option maxRecDepth 20000 in
theorem m_im_X5_takesNumber : Cond.instanceMethod yX5_takesNumber ∈ lw_g := mg 613 (by decide +kernel) (by decide +kernel)
set_option maxRecDepth 20000 in
theorem m_co_X5_takesNumber : Cond.code yX5_takesNumber cX5_takesNumber 6 none ∈ lw_g := mg 614 rfl rfl
set_option maxRecDepth 20000 in
theorem m_ml_X5_92 : Cond.methodLink RX5 92 yX5_readsItem ∈ lw_g := mg 615 (by decide +kernel) (by decide +kernel)
set_option maxRecDepth 20000 in
theorem m_im_X5_readsItem : Cond.instanceMethod yX5_readsItem ∈ lw_g := mg 617 (by decide +kernel) (by decide +kernel)
set_option maxRecDepth 20000 in
theorem m_co_X5_readsItem : Cond.code yX5_readsItem cX5_readsItem 3 (some .boolean) ∈ lw_g := mg 618 rfl rfl
set_option maxRecDepth 20000 in
theorem m_ml_X5_71 : Cond.methodLink RX5 71 yX5_readsLetter ∈ lw_g := mg 619 (by decide +kernel) (by decide +kernel)
set_option maxRecDepth 20000 in
theorem m_im_X5_readsLetter : Cond.instanceMethod yX5_readsLetter ∈ lw_g := mg 621 (by decide +kernel) (by decide +kernel)
set_option maxRecDepth 20000 in
theorem m_co_X5_readsLetter : Cond.code yX5_readsLetter cX5_readsLetter 2 (some .boolean) ∈ lw_g := mg 622 rfl rfl
set_option maxRecDepth 20000 in
theorem m_ml_X5_68 : Cond.methodLink RX5 68 yX5_reads ∈ lw_g := mg 623 (by decide +kernel) (by decide +kernel)
set_option maxRecDepth 20000 in
theorem m_im_X5_reads : Cond.instanceMethod yX5_reads ∈ lw_g := mg 625 (by decide +kernel) (by decide +kernel)
set_option maxRecDepth 20000 in
theorem m_co_X5_reads : Cond.code yX5_reads cX5_reads 4 (some .boolean) ∈ lw_g := mg 626 rfl rfl
set_option maxRecDepth 20000 in
theorem m_ml_X5_95 : Cond.methodLink RX5 95 yX5_doesItem ∈ lw_g := mg 627 (by decide +kernel) (by decide +kernel)
set_option maxRecDepth 20000 in
theorem m_im_X5_doesItem : Cond.instanceMethod yX5_doesItem ∈ lw_g := mg 629 (by decide +kernel) (by decide +kernel)
set_option maxRecDepth 20000 in
theorem m_co_X5_doesItem : Cond.code yX5_doesItem cX5_doesItem 2 (some .boolean) ∈ lw_g := mg 630 rfl rfl
set_option maxRecDepth 20000 in
theorem m_ml_X5_86 : Cond.methodLink RX5 86 yX5_comes ∈ lw_g := mg 631 (by decide +kernel) (by decide +kernel)
set_option maxRecDepth 20000 in
theorem m_im_X5_comes : Cond.instanceMethod yX5_comes ∈ lw_g := mg 633 (by decide +kernel) (by decide +kernel)
set_option maxRecDepth 20000 in
theorem m_co_X5_comes : Cond.code yX5_comes cX5_comes 4 (some .boolean) ∈ lw_g := mg 634 rfl rfl
set_option maxRecDepth 20000 in
theorem m_ml_X5_75 : Cond.methodLink RX5 75 yX5_channelAt ∈ lw_g := mg 635 (by decide +kernel) (by decide +kernel)
set_option maxRecDepth 20000 in
theorem m_st_X5_channelAt : Cond.static yX5_channelAt ∈ lw_g := mg 636 (by decide +kernel) (by decide +kernel)
set_option maxRecDepth 20000 in
theorem m_co_X5_channelAt : Cond.code yX5_channelAt cX5_channelAt 1 (some .int) ∈ lw_g := mg 637 rfl rfl
set_option maxRecDepth 20000 in
theorem m_ml_X5_79 : Cond.methodLink RX5 79 yX5_slotAt ∈ lw_g := mg 638 (by decide +kernel) (by decide +kernel)
set_option maxRecDepth 20000 in
theorem m_st_X5_slotAt : Cond.static yX5_slotAt ∈ lw_g := mg 639 (by decide +kernel) (by decide +kernel)
set_option maxRecDepth 20000 in
theorem m_co_X5_slotAt : Cond.code yX5_slotAt cX5_slotAt 2 (some .int) ∈ lw_g := mg 640 rfl rfl
set_option maxRecDepth 20000 in
theorem m_ml_X5_83 : Cond.methodLink RX5 83 yX5_isEngines ∈ lw_g := mg 641 (by decide +kernel) (by decide +kernel)
set_option maxRecDepth 20000 in
theorem m_im_X5_isEngines : Cond.instanceMethod yX5_isEngines ∈ lw_g := mg 643 (by decide +kernel) (by decide +kernel)
set_option maxRecDepth 20000 in
theorem m_co_X5_isEngines : Cond.code yX5_isEngines cX5_isEngines 2 (some .boolean) ∈ lw_g := mg 644 rfl rfl
set_option maxRecDepth 20000 in
theorem m_ml_X5_105 : Cond.methodLink RX5 105 yX5_keepsSpare ∈ lw_g := mg 645 (by decide +kernel) (by decide +kernel)
set_option maxRecDepth 20000 in
theorem m_im_X5_keepsSpare : Cond.instanceMethod yX5_keepsSpare ∈ lw_g := mg 647 (by decide +kernel) (by decide +kernel)
set_option maxRecDepth 20000 in
theorem m_co_X5_keepsSpare : Cond.code yX5_keepsSpare cX5_keepsSpare 2 none ∈ lw_g := mg 648 rfl rfl
set_option maxRecDepth 20000 in
theorem m_ml_X5_108 : Cond.methodLink RX5 108 yX5_takesBack ∈ lw_g := mg 649 (by decide +kernel) (by decide +kernel)
set_option maxRecDepth 20000 in
theorem m_im_X5_takesBack : Cond.instanceMethod yX5_takesBack ∈ lw_g := mg 651 (by decide +kernel) (by decide +kernel)
set_option maxRecDepth 20000 in
theorem m_co_X5_takesBack : Cond.code yX5_takesBack cX5_takesBack 2 none ∈ lw_g := mg 652 rfl rfl
set_option maxRecDepth 20000 in
theorem m_ml_X5_111 : Cond.methodLink RX5 111 yX5_remembers ∈ lw_g := mg 653 (by decide +kernel) (by decide +kernel)
set_option maxRecDepth 20000 in
theorem m_im_X5_remembers : Cond.instanceMethod yX5_remembers ∈ lw_g := mg 655 (by decide +kernel) (by decide +kernel)
set_option maxRecDepth 20000 in
theorem m_co_X5_remembers : Cond.code yX5_remembers cX5_remembers 2 none ∈ lw_g := mg 656 rfl rfl
set_option maxRecDepth 20000 in
theorem m_ml_L_30 : Cond.methodLink RL 30 yX5_ticks ∈ lw_g := mg 657 (by decide +kernel) (by decide +kernel)
set_option maxRecDepth 20000 in
theorem m_im_X5_ticks : Cond.instanceMethod yX5_ticks ∈ lw_g := mg 658 (by decide +kernel) (by decide +kernel)
set_option maxRecDepth 20000 in
theorem m_se_X5_ticks : Cond.selects RX5 yX5_ticks yX5_ticks ∈ lw_g := mg 659 (by decide +kernel) (by decide +kernel)
set_option maxRecDepth 20000 in
theorem m_co_X5_ticks : Cond.code yX5_ticks cX5_ticks 4 (some .int) ∈ lw_g := mg 660 rfl rfl
set_option maxRecDepth 20000 in
theorem m_ml_X5_137 : Cond.methodLink RX5 137 yX5_ticksOnce ∈ lw_g := mg 661 (by decide +kernel) (by decide +kernel)
set_option maxRecDepth 20000 in
theorem m_im_X5_ticksOnce : Cond.instanceMethod yX5_ticksOnce ∈ lw_g := mg 663 (by decide +kernel) (by decide +kernel)
set_option maxRecDepth 20000 in
theorem m_co_X5_ticksOnce : Cond.code yX5_ticksOnce cX5_ticksOnce 5 (some .int) ∈ lw_g := mg 664 rfl rfl
set_option maxRecDepth 20000 in
theorem m_ml_X5_127 : Cond.methodLink RX5 127 yX5_writes ∈ lw_g := mg 665 (by decide +kernel) (by decide +kernel)
set_option maxRecDepth 20000 in
theorem m_im_X5_writes : Cond.instanceMethod yX5_writes ∈ lw_g := mg 667 (by decide +kernel) (by decide +kernel)
set_option maxRecDepth 20000 in
theorem m_co_X5_writes : Cond.code yX5_writes cX5_writes 5 none ∈ lw_g := mg 668 rfl rfl
set_option maxRecDepth 20000 in
theorem m_ml_X5_131 : Cond.methodLink RX5 131 yX5_isReady ∈ lw_g := mg 669 (by decide +kernel) (by decide +kernel)
set_option maxRecDepth 20000 in
theorem m_im_X5_isReady : Cond.instanceMethod yX5_isReady ∈ lw_g := mg 671 (by decide +kernel) (by decide +kernel)
set_option maxRecDepth 20000 in
theorem m_co_X5_isReady : Cond.code yX5_isReady cX5_isReady 4 (some .boolean) ∈ lw_g := mg 672 rfl rfl
set_option maxRecDepth 20000 in
theorem m_ml_X5_114 : Cond.methodLink RX5 114 yX5_present ∈ lw_g := mg 673 (by decide +kernel) (by decide +kernel)
set_option maxRecDepth 20000 in
theorem m_im_X5_present : Cond.instanceMethod yX5_present ∈ lw_g := mg 675 (by decide +kernel) (by decide +kernel)
set_option maxRecDepth 20000 in
theorem m_co_X5_present : Cond.code yX5_present cX5_present 3 (some .int) ∈ lw_g := mg 676 rfl rfl
set_option maxRecDepth 20000 in
theorem m_ml_X5_134 : Cond.methodLink RX5 134 yX5_carries ∈ lw_g := mg 677 (by decide +kernel) (by decide +kernel)
set_option maxRecDepth 20000 in
theorem m_im_X5_carries : Cond.instanceMethod yX5_carries ∈ lw_g := mg 679 (by decide +kernel) (by decide +kernel)
set_option maxRecDepth 20000 in
theorem m_co_X5_carries : Cond.code yX5_carries cX5_carries 7 none ∈ lw_g := mg 680 rfl rfl
set_option maxRecDepth 20000 in
theorem m_ml_X5_120 : Cond.methodLink RX5 120 yX5_unitsOf ∈ lw_g := mg 681 (by decide +kernel) (by decide +kernel)
set_option maxRecDepth 20000 in
theorem m_im_X5_unitsOf : Cond.instanceMethod yX5_unitsOf ∈ lw_g := mg 683 (by decide +kernel) (by decide +kernel)
set_option maxRecDepth 20000 in
theorem m_co_X5_unitsOf : Cond.code yX5_unitsOf cX5_unitsOf 2 (some .int) ∈ lw_g := mg 684 rfl rfl
set_option maxRecDepth 20000 in
theorem m_ml_X5_123 : Cond.methodLink RX5 123 yX5_addressOf ∈ lw_g := mg 685 (by decide +kernel) (by decide +kernel)
set_option maxRecDepth 20000 in
theorem m_im_X5_addressOf : Cond.instanceMethod yX5_addressOf ∈ lw_g := mg 687 (by decide +kernel) (by decide +kernel)
set_option maxRecDepth 20000 in
theorem m_co_X5_addressOf : Cond.code yX5_addressOf cX5_addressOf 6 (some .int) ∈ lw_g := mg 688 rfl rfl
set_option maxRecDepth 20000 in
theorem m_ml_X5_117 : Cond.methodLink RX5 117 yX5_around ∈ lw_g := mg 689 (by decide +kernel) (by decide +kernel)
set_option maxRecDepth 20000 in
theorem m_st_X5_around : Cond.static yX5_around ∈ lw_g := mg 690 (by decide +kernel) (by decide +kernel)
set_option maxRecDepth 20000 in
theorem m_co_X5_around : Cond.code yX5_around cX5_around 2 (some .int) ∈ lw_g := mg 691 rfl rfl
set_option maxRecDepth 20000 in
theorem m_ml_L_34 : Cond.methodLink RL 34 yX5_cancels ∈ lw_g := mg 692 (by decide +kernel) (by decide +kernel)
set_option maxRecDepth 20000 in
theorem m_im_X5_cancels : Cond.instanceMethod yX5_cancels ∈ lw_g := mg 693 (by decide +kernel) (by decide +kernel)
set_option maxRecDepth 20000 in
theorem m_se_X5_cancels : Cond.selects RX5 yX5_cancels yX5_cancels ∈ lw_g := mg 694 (by decide +kernel) (by decide +kernel)
set_option maxRecDepth 20000 in
theorem m_co_X5_cancels : Cond.code yX5_cancels cX5_cancels 6 (some .int) ∈ lw_g := mg 695 rfl rfl
set_option maxRecDepth 20000 in
theorem m_ml_X5_141 : Cond.methodLink RX5 141 yX5_isChannel ∈ lw_g := mg 696 (by decide +kernel) (by decide +kernel)
set_option maxRecDepth 20000 in
theorem m_st_X5_isChannel : Cond.static yX5_isChannel ∈ lw_g := mg 697 (by decide +kernel) (by decide +kernel)
set_option maxRecDepth 20000 in
theorem m_co_X5_isChannel : Cond.code yX5_isChannel cX5_isChannel 1 (some .boolean) ∈ lw_g := mg 698 rfl rfl
set_option maxRecDepth 20000 in
theorem m_ml_X5_144 : Cond.methodLink RX5 144 yX5_writesAll ∈ lw_g := mg 699 (by decide +kernel) (by decide +kernel)
set_option maxRecDepth 20000 in
theorem m_im_X5_writesAll : Cond.instanceMethod yX5_writesAll ∈ lw_g := mg 701 (by decide +kernel) (by decide +kernel)
set_option maxRecDepth 20000 in
theorem m_co_X5_writesAll : Cond.code yX5_writesAll cX5_writesAll 3 none ∈ lw_g := mg 702 rfl rfl
set_option maxRecDepth 20000 in
theorem m_ml_L_38 : Cond.methodLink RL 38 yX5_switches ∈ lw_g := mg 703 (by decide +kernel) (by decide +kernel)
set_option maxRecDepth 20000 in
theorem m_im_X5_switches : Cond.instanceMethod yX5_switches ∈ lw_g := mg 704 (by decide +kernel) (by decide +kernel)
set_option maxRecDepth 20000 in
theorem m_se_X5_switches : Cond.selects RX5 yX5_switches yX5_switches ∈ lw_g := mg 705 (by decide +kernel) (by decide +kernel)
set_option maxRecDepth 20000 in
theorem m_co_X5_switches : Cond.code yX5_switches cX5_switches 3 (some .int) ∈ lw_g := mg 706 rfl rfl
set_option maxRecDepth 20000 in
theorem m_ml_L_43 : Cond.methodLink RL 43 yX5_tunes ∈ lw_g := mg 707 (by decide +kernel) (by decide +kernel)
set_option maxRecDepth 20000 in
theorem m_im_X5_tunes : Cond.instanceMethod yX5_tunes ∈ lw_g := mg 708 (by decide +kernel) (by decide +kernel)
set_option maxRecDepth 20000 in
theorem m_se_X5_tunes : Cond.selects RX5 yX5_tunes yX5_tunes ∈ lw_g := mg 709 (by decide +kernel) (by decide +kernel)
set_option maxRecDepth 20000 in
theorem m_co_X5_tunes : Cond.code yX5_tunes cX5_tunes 5 (some .int) ∈ lw_g := mg 710 rfl rfl
set_option maxRecDepth 20000 in
theorem m_ml_L_47 : Cond.methodLink RL 47 yX5_undo ∈ lw_g := mg 711 (by decide +kernel) (by decide +kernel)
set_option maxRecDepth 20000 in
theorem m_im_X5_undo : Cond.instanceMethod yX5_undo ∈ lw_g := mg 712 (by decide +kernel) (by decide +kernel)
set_option maxRecDepth 20000 in
theorem m_se_X5_undo : Cond.selects RX5 yX5_undo yX5_undo ∈ lw_g := mg 713 (by decide +kernel) (by decide +kernel)
set_option maxRecDepth 20000 in
theorem m_co_X5_undo : Cond.code yX5_undo cX5_undo 2 (some .int) ∈ lw_g := mg 714 rfl rfl
set_option maxRecDepth 20000 in
theorem m_ml_L_51 : Cond.methodLink RL 51 yX5_at ∈ lw_g := mg 715 (by decide +kernel) (by decide +kernel)
set_option maxRecDepth 20000 in
theorem m_im_X5_at : Cond.instanceMethod yX5_at ∈ lw_g := mg 716 (by decide +kernel) (by decide +kernel)
set_option maxRecDepth 20000 in
theorem m_se_X5_at : Cond.selects RX5 yX5_at yX5_at ∈ lw_g := mg 717 (by decide +kernel) (by decide +kernel)
set_option maxRecDepth 20000 in
theorem m_co_X5_at : Cond.code yX5_at cX5_at 2 (some .int) ∈ lw_g := mg 718 rfl rfl
set_option maxRecDepth 20000 in
theorem m_ml_L_56 : Cond.methodLink RL 56 yX5_channel ∈ lw_g := mg 719 (by decide +kernel) (by decide +kernel)
set_option maxRecDepth 20000 in
theorem m_im_X5_channel : Cond.instanceMethod yX5_channel ∈ lw_g := mg 720 (by decide +kernel) (by decide +kernel)
set_option maxRecDepth 20000 in
theorem m_se_X5_channel : Cond.selects RX5 yX5_channel yX5_channel ∈ lw_g := mg 721 (by decide +kernel) (by decide +kernel)
set_option maxRecDepth 20000 in
theorem m_co_X5_channel : Cond.code yX5_channel cX5_channel 4 (some .int) ∈ lw_g := mg 722 rfl rfl
set_option maxRecDepth 20000 in
theorem m_ml_L_60 : Cond.methodLink RL 60 yX5_slot ∈ lw_g := mg 723 (by decide +kernel) (by decide +kernel)
set_option maxRecDepth 20000 in
theorem m_im_X5_slot : Cond.instanceMethod yX5_slot ∈ lw_g := mg 724 (by decide +kernel) (by decide +kernel)
set_option maxRecDepth 20000 in
theorem m_se_X5_slot : Cond.selects RX5 yX5_slot yX5_slot ∈ lw_g := mg 725 (by decide +kernel) (by decide +kernel)
set_option maxRecDepth 20000 in
theorem m_co_X5_slot : Cond.code yX5_slot cX5_slot 5 (some .int) ∈ lw_g := mg 726 rfl rfl
set_option maxRecDepth 20000 in
theorem m_ml_X5_147 : Cond.methodLink RX5 147 yX5_isSlot ∈ lw_g := mg 727 (by decide +kernel) (by decide +kernel)
set_option maxRecDepth 20000 in
theorem m_st_X5_isSlot : Cond.static yX5_isSlot ∈ lw_g := mg 728 (by decide +kernel) (by decide +kernel)
set_option maxRecDepth 20000 in
theorem m_co_X5_isSlot : Cond.code yX5_isSlot cX5_isSlot 2 (some .boolean) ∈ lw_g := mg 729 rfl rfl
set_option maxRecDepth 20000 in
theorem m_ml_L_65 : Cond.methodLink RL 65 yX5_unit ∈ lw_g := mg 730 (by decide +kernel) (by decide +kernel)
set_option maxRecDepth 20000 in
theorem m_im_X5_unit : Cond.instanceMethod yX5_unit ∈ lw_g := mg 731 (by decide +kernel) (by decide +kernel)
set_option maxRecDepth 20000 in
theorem m_se_X5_unit : Cond.selects RX5 yX5_unit yX5_unit ∈ lw_g := mg 732 (by decide +kernel) (by decide +kernel)
set_option maxRecDepth 20000 in
theorem m_co_X5_unit : Cond.code yX5_unit cX5_unit 6 (some .int) ∈ lw_g := mg 733 rfl rfl
set_option maxRecDepth 20000 in
theorem m_ml_L_69 : Cond.methodLink RL 69 yX5_waiting ∈ lw_g := mg 734 (by decide +kernel) (by decide +kernel)
set_option maxRecDepth 20000 in
theorem m_im_X5_waiting : Cond.instanceMethod yX5_waiting ∈ lw_g := mg 735 (by decide +kernel) (by decide +kernel)
set_option maxRecDepth 20000 in
theorem m_se_X5_waiting : Cond.selects RX5 yX5_waiting yX5_waiting ∈ lw_g := mg 736 (by decide +kernel) (by decide +kernel)
set_option maxRecDepth 20000 in
theorem m_co_X5_waiting : Cond.code yX5_waiting cX5_waiting 2 (some .int) ∈ lw_g := mg 737 rfl rfl
set_option maxRecDepth 20000 in
theorem m_ml_L_73 : Cond.methodLink RL 73 yX5_both ∈ lw_g := mg 738 (by decide +kernel) (by decide +kernel)
set_option maxRecDepth 20000 in
theorem m_im_X5_both : Cond.instanceMethod yX5_both ∈ lw_g := mg 739 (by decide +kernel) (by decide +kernel)
set_option maxRecDepth 20000 in
theorem m_se_X5_both : Cond.selects RX5 yX5_both yX5_both ∈ lw_g := mg 740 (by decide +kernel) (by decide +kernel)
set_option maxRecDepth 20000 in
theorem m_co_X5_both : Cond.code yX5_both cX5_both 11 (some .int) ∈ lw_g := mg 741 rfl rfl
set_option maxRecDepth 20000 in
theorem m_ml_X5_151 : Cond.methodLink RX5 151 yX5_writesOf ∈ lw_g := mg 742 (by decide +kernel) (by decide +kernel)
set_option maxRecDepth 20000 in
theorem m_im_X5_writesOf : Cond.instanceMethod yX5_writesOf ∈ lw_g := mg 744 (by decide +kernel) (by decide +kernel)
set_option maxRecDepth 20000 in
theorem m_co_X5_writesOf : Cond.code yX5_writesOf cX5_writesOf 5 (some .long) ∈ lw_g := mg 745 rfl rfl
set_option maxRecDepth 20000 in
theorem m_ml_L_77 : Cond.methodLink RL 77 yX5_over ∈ lw_g := mg 746 (by decide +kernel) (by decide +kernel)
set_option maxRecDepth 20000 in
theorem m_im_X5_over : Cond.instanceMethod yX5_over ∈ lw_g := mg 747 (by decide +kernel) (by decide +kernel)
set_option maxRecDepth 20000 in
theorem m_se_X5_over : Cond.selects RX5 yX5_over yX5_over ∈ lw_g := mg 748 (by decide +kernel) (by decide +kernel)
set_option maxRecDepth 20000 in
theorem m_co_X5_over : Cond.code yX5_over cX5_over 3 (some .int) ∈ lw_g := mg 749 rfl rfl
set_option maxRecDepth 20000 in
theorem m_ml_X5_158 : Cond.methodLink RX5 158 yX5_overOf ∈ lw_g := mg 750 (by decide +kernel) (by decide +kernel)
set_option maxRecDepth 20000 in
theorem m_im_X5_overOf : Cond.instanceMethod yX5_overOf ∈ lw_g := mg 752 (by decide +kernel) (by decide +kernel)
set_option maxRecDepth 20000 in
theorem m_co_X5_overOf : Cond.code yX5_overOf cX5_overOf 3 (some .int) ∈ lw_g := mg 753 rfl rfl
set_option maxRecDepth 20000 in
theorem m_ml_X5_155 : Cond.methodLink RX5 155 yX5_hasEngines ∈ lw_g := mg 754 (by decide +kernel) (by decide +kernel)
set_option maxRecDepth 20000 in
theorem m_im_X5_hasEngines : Cond.instanceMethod yX5_hasEngines ∈ lw_g := mg 756 (by decide +kernel) (by decide +kernel)
set_option maxRecDepth 20000 in
theorem m_co_X5_hasEngines : Cond.code yX5_hasEngines cX5_hasEngines 4 (some .boolean) ∈ lw_g := mg 757 rfl rfl
set_option maxRecDepth 20000 in
theorem m_ml_L_81 : Cond.methodLink RL 81 yX5_lands ∈ lw_g := mg 758 (by decide +kernel) (by decide +kernel)
set_option maxRecDepth 20000 in
theorem m_im_X5_lands : Cond.instanceMethod yX5_lands ∈ lw_g := mg 759 (by decide +kernel) (by decide +kernel)
set_option maxRecDepth 20000 in
theorem m_se_X5_lands : Cond.selects RX5 yX5_lands yX5_lands ∈ lw_g := mg 760 (by decide +kernel) (by decide +kernel)
set_option maxRecDepth 20000 in
theorem m_co_X5_lands : Cond.code yX5_lands cX5_lands 6 (some .int) ∈ lw_g := mg 761 rfl rfl
set_option maxRecDepth 20000 in
theorem m_ml_L_85 : Cond.methodLink RL 85 yX5_enough ∈ lw_g := mg 762 (by decide +kernel) (by decide +kernel)
set_option maxRecDepth 20000 in
theorem m_im_X5_enough : Cond.instanceMethod yX5_enough ∈ lw_g := mg 763 (by decide +kernel) (by decide +kernel)
set_option maxRecDepth 20000 in
theorem m_se_X5_enough : Cond.selects RX5 yX5_enough yX5_enough ∈ lw_g := mg 764 (by decide +kernel) (by decide +kernel)
set_option maxRecDepth 20000 in
theorem m_co_X5_enough : Cond.code yX5_enough cX5_enough 6 (some .int) ∈ lw_g := mg 765 rfl rfl
set_option maxRecDepth 20000 in
theorem m_ml_L_89 : Cond.methodLink RL 89 yX5_granted ∈ lw_g := mg 766 (by decide +kernel) (by decide +kernel)
set_option maxRecDepth 20000 in
theorem m_im_X5_granted : Cond.instanceMethod yX5_granted ∈ lw_g := mg 767 (by decide +kernel) (by decide +kernel)
set_option maxRecDepth 20000 in
theorem m_se_X5_granted : Cond.selects RX5 yX5_granted yX5_granted ∈ lw_g := mg 768 (by decide +kernel) (by decide +kernel)
set_option maxRecDepth 20000 in
theorem m_co_X5_granted : Cond.code yX5_granted cX5_granted 4 (some .int) ∈ lw_g := mg 769 rfl rfl
set_option maxRecDepth 20000 in
theorem m_ml_L_93 : Cond.methodLink RL 93 yX5_sees ∈ lw_g := mg 770 (by decide +kernel) (by decide +kernel)
set_option maxRecDepth 20000 in
theorem m_im_X5_sees : Cond.instanceMethod yX5_sees ∈ lw_g := mg 771 (by decide +kernel) (by decide +kernel)
set_option maxRecDepth 20000 in
theorem m_se_X5_sees : Cond.selects RX5 yX5_sees yX5_sees ∈ lw_g := mg 772 (by decide +kernel) (by decide +kernel)
set_option maxRecDepth 20000 in
theorem m_co_X5_sees : Cond.code yX5_sees cX5_sees 3 (some .int) ∈ lw_g := mg 773 rfl rfl
set_option maxRecDepth 20000 in
theorem m_ml_L_97 : Cond.methodLink RL 97 yX5_forget ∈ lw_g := mg 774 (by decide +kernel) (by decide +kernel)
set_option maxRecDepth 20000 in
theorem m_im_X5_forget : Cond.instanceMethod yX5_forget ∈ lw_g := mg 775 (by decide +kernel) (by decide +kernel)
set_option maxRecDepth 20000 in
theorem m_se_X5_forget : Cond.selects RX5 yX5_forget yX5_forget ∈ lw_g := mg 776 (by decide +kernel) (by decide +kernel)
set_option maxRecDepth 20000 in
theorem m_co_X5_forget : Cond.code yX5_forget cX5_forget 2 (some .int) ∈ lw_g := mg 777 rfl rfl
set_option maxRecDepth 20000 in
theorem m_ml_L_101 : Cond.methodLink RL 101 yX5_ranks ∈ lw_g := mg 778 (by decide +kernel) (by decide +kernel)
set_option maxRecDepth 20000 in
theorem m_im_X5_ranks : Cond.instanceMethod yX5_ranks ∈ lw_g := mg 779 (by decide +kernel) (by decide +kernel)
set_option maxRecDepth 20000 in
theorem m_se_X5_ranks : Cond.selects RX5 yX5_ranks yX5_ranks ∈ lw_g := mg 780 (by decide +kernel) (by decide +kernel)
set_option maxRecDepth 20000 in
theorem m_co_X5_ranks : Cond.code yX5_ranks cX5_ranks 4 (some .int) ∈ lw_g := mg 781 rfl rfl
set_option maxRecDepth 20000 in
theorem m_ml_X5_164 : Cond.methodLink RX5 164 yX5_isSeen ∈ lw_g := mg 782 (by decide +kernel) (by decide +kernel)
set_option maxRecDepth 20000 in
theorem m_im_X5_isSeen : Cond.instanceMethod yX5_isSeen ∈ lw_g := mg 784 (by decide +kernel) (by decide +kernel)
set_option maxRecDepth 20000 in
theorem m_co_X5_isSeen : Cond.code yX5_isSeen cX5_isSeen 5 (some .boolean) ∈ lw_g := mg 785 rfl rfl
set_option maxRecDepth 20000 in
theorem m_ml_L_105 : Cond.methodLink RL 105 yX5_keep ∈ lw_g := mg 786 (by decide +kernel) (by decide +kernel)
set_option maxRecDepth 20000 in
theorem m_im_X5_keep : Cond.instanceMethod yX5_keep ∈ lw_g := mg 787 (by decide +kernel) (by decide +kernel)
set_option maxRecDepth 20000 in
theorem m_se_X5_keep : Cond.selects RX5 yX5_keep yX5_keep ∈ lw_g := mg 788 (by decide +kernel) (by decide +kernel)
set_option maxRecDepth 20000 in
theorem m_co_X5_keep : Cond.code yX5_keep cX5_keep 3 (some .int) ∈ lw_g := mg 789 rfl rfl
set_option maxRecDepth 20000 in
theorem m_ml_X5_167 : Cond.methodLink RX5 167 yX5_engines ∈ lw_g := mg 790 (by decide +kernel) (by decide +kernel)
set_option maxRecDepth 20000 in
theorem m_im_X5_engines : Cond.instanceMethod yX5_engines ∈ lw_g := mg 792 (by decide +kernel) (by decide +kernel)
set_option maxRecDepth 20000 in
theorem m_co_X5_engines : Cond.code yX5_engines cX5_engines 3 (some .int) ∈ lw_g := mg 793 rfl rfl
set_option maxRecDepth 20000 in
theorem m_ml_L_109 : Cond.methodLink RL 109 yX5_back ∈ lw_g := mg 794 (by decide +kernel) (by decide +kernel)
set_option maxRecDepth 20000 in
theorem m_im_X5_back : Cond.instanceMethod yX5_back ∈ lw_g := mg 795 (by decide +kernel) (by decide +kernel)
set_option maxRecDepth 20000 in
theorem m_se_X5_back : Cond.selects RX5 yX5_back yX5_back ∈ lw_g := mg 796 (by decide +kernel) (by decide +kernel)
set_option maxRecDepth 20000 in
theorem m_co_X5_back : Cond.code yX5_back cX5_back 3 (some .int) ∈ lw_g := mg 797 rfl rfl
set_option maxRecDepth 20000 in
theorem m_ml_L_113 : Cond.methodLink RL 113 yX5_count ∈ lw_g := mg 798 (by decide +kernel) (by decide +kernel)
set_option maxRecDepth 20000 in
theorem m_im_X5_count : Cond.instanceMethod yX5_count ∈ lw_g := mg 799 (by decide +kernel) (by decide +kernel)
set_option maxRecDepth 20000 in
theorem m_se_X5_count : Cond.selects RX5 yX5_count yX5_count ∈ lw_g := mg 800 (by decide +kernel) (by decide +kernel)
set_option maxRecDepth 20000 in
theorem m_co_X5_count : Cond.code yX5_count cX5_count 2 (some .int) ∈ lw_g := mg 801 rfl rfl
set_option maxRecDepth 20000 in
theorem m_us_X0 : ∀ w ∈ u_ws RX0 TX0 7, w ∈ lw_g := fun w h => List.mem_filter.mpr ⟨(by decide +kernel : ∀ w ∈ u_ws RX0 TX0 7, w ∈ lw_tbl) w h, (by decide +kernel : ∀ w ∈ u_ws RX0 TX0 7, goodWord w = true) w h⟩
set_option maxRecDepth 20000 in
theorem m_us_X1 : ∀ w ∈ u_ws RX1 TX1 3, w ∈ lw_g := fun w h => List.mem_filter.mpr ⟨(by decide +kernel : ∀ w ∈ u_ws RX1 TX1 3, w ∈ lw_tbl) w h, (by decide +kernel : ∀ w ∈ u_ws RX1 TX1 3, goodWord w = true) w h⟩
set_option maxRecDepth 20000 in
theorem m_us_X2 : ∀ w ∈ u_ws RX2 TX2 3, w ∈ lw_g := fun w h => List.mem_filter.mpr ⟨(by decide +kernel : ∀ w ∈ u_ws RX2 TX2 3, w ∈ lw_tbl) w h, (by decide +kernel : ∀ w ∈ u_ws RX2 TX2 3, goodWord w = true) w h⟩
set_option maxRecDepth 20000 in
theorem m_us_X3 : ∀ w ∈ u_ws RX3 TX3 6, w ∈ lw_g := fun w h => List.mem_filter.mpr ⟨(by decide +kernel : ∀ w ∈ u_ws RX3 TX3 6, w ∈ lw_tbl) w h, (by decide +kernel : ∀ w ∈ u_ws RX3 TX3 6, goodWord w = true) w h⟩
set_option maxRecDepth 20000 in
theorem m_us_X4 : ∀ w ∈ u_ws RX4 TX4 7, w ∈ lw_g := fun w h => List.mem_filter.mpr ⟨(by decide +kernel : ∀ w ∈ u_ws RX4 TX4 7, w ∈ lw_tbl) w h, (by decide +kernel : ∀ w ∈ u_ws RX4 TX4 7, goodWord w = true) w h⟩
set_option maxRecDepth 20000 in
theorem m_us_X5 : ∀ w ∈ u_ws RX5 TX5 17, w ∈ lw_g := fun w h => List.mem_filter.mpr ⟨(by decide +kernel : ∀ w ∈ u_ws RX5 TX5 17, w ∈ lw_tbl) w h, (by decide +kernel : ∀ w ∈ u_ws RX5 TX5 17, goodWord w = true) w h⟩
set_option maxRecDepth 20000 in
theorem gd_ok : GoodIn lw_tbl lw_g := fun w h => ⟨(List.mem_filter.mp h).1, good_of_word (List.mem_filter.mp h).2⟩
set_option maxRecDepth 20000 in
theorem gd_g : GoodIn lw_g lw_g := fun w h => ⟨h, good_of_word (List.mem_filter.mp h).2⟩
set_option maxRecDepth 20000 in
theorem gd_c {c : Cond} (hc : c ∈ lw_g) : GoodIn lw_g (c :: lw_g) := fun w h => (List.mem_cons.mp h).elim (fun e => by subst e; exact gd_g _ hc) (gd_g w)
end
section
/-! The frame: contracts 'Ct' over worlds, and a judgement 'J' whose arguments are pure data: a world, a pc, locals, a stack. -/
abbrev DX : Type := Launch × va_G × (ClassId × ClassId × ClassId) × List (String × String × String × Nat × Nat × (Nat → Int32))
abbrev dl (D : DX) : Launch := D.1
abbrev dG (D : DX) : va_G := D.2.1
abbrev dI (D : DX) : ClassId := D.2.2.1.1
abbrev dE (D : DX) : ClassId := D.2.2.1.2.1
abbrev dZ (D : DX) : ClassId := D.2.2.1.2.2
abbrev dT (D : DX) : List (ClassId × FieldType) := [(dI D, .int), (dE D, .object RX0), (dZ D, .boolean)]
def zOk (D : DX) (A : Nat → Prop) (U : State) (H : Heap) : Prop := ∀ q ∈ D.2.2.2, va_Z q.1 q.2.1 q.2.2.1 (.ref q.2.2.2.1) A U H ∧ va_T .int q.2.2.2.1 q.2.2.2.2.1 (fun k => .int (q.2.2.2.2.2 k)) A U H
def xOk (U : State) : Prop := va_Nw (.methodLinkNest RX3 66 yX4_within RX4) U ∧ va_AO RX0 U
def cQ (D : DX) (fin : Option Value → va_W → Prop) (A : Nat → Prop) : Array Value → State → Outcome → State → Prop := fun _ st oc t => (∃ (v : Option Value) (w' : va_W), oc = .returned v ∧ fin v w' ∧ va_P (dG D) classes w' t.heap ∧ va_D A w') ∧ va_F A st t
def cP (D : DX) (av : List Value) (w : va_W) (sz : Nat) : Array Value → State → Prop := va_Pc av (fun U => U.heap.size = sz ∧ va_P (dG D) classes w U.heap ∧ va_K (dG D) classes (dT D) U ∧ va_D (fun _ => True) w ∧ zOk D (va_A w sz) U U.heap ∧ xOk U)
/-- a method's contract: from any state that holds the world w it returns, and what it answers and the new world are as 'fin' tells -/
def Ct (D : DX) (y : MethodName) (b : ByteArray) (n : Nat) (r : Option FieldType) (rm : Room) (av : List Value) (w : va_W) (fin : Option Value → va_W → Prop) : Prop :=
  ∀ sz : Nat, Met (dl D) y (.code y b n r :: lw_g) rm (cP D av w sz) (cQ D fin (va_A w sz)) rm.cells rm.slots (va_A w sz)
abbrev GX : Type := Program × Env × State × MethodId × Array Value × List Frame × Method × Code × (Nat → Prop)
def Ok (D : DX) (Γ : GX) (y : MethodName) (cc : ByteArray) (nL : Nat) (ret : Option FieldType) : Prop :=
  match Γ with
  | (p, _, s, m, args, _, meth, c, A) => p.tables.exec = Jvm.exec ∧ c.code = cc ∧ meth.sig.returnType = ret ∧ c.maxLocals = nL ∧ s.vm.findClass y.cls = some m.cls ∧ (∀ w ∈ lw_g, w.before args s = true) ∧ meth.locks = false ∧ va_K (dG D) classes (dT D) s ∧ (∀ q, s.heap.size ≤ q → A q) ∧ meth.name = y.name ∧ zOk D A s s.heap ∧ xOk s
def Qf (D : DX) (Γ : GX) (R : Room) (fin : Option Value → va_W → Prop) : State → Prop := match Γ with
  | (_, _, s, _, args, below, _, _, A) => MQ below (cQ D fin A) args s R.cells R.slots A
def J (D : DX) (Γ : GX) (y : MethodName) (cc : ByteArray) (nL : Nat) (ret : Option FieldType) (R : Room) (Q : State → Prop) (k n : Nat) (w : va_W) (pc : Nat) (lv : List (Nat × Value)) (st : List Value) : Prop :=
  match Γ with
  | (p, e, s, m, args, below, meth, c, A) => Ok D (p, e, s, m, args, below, meth, c, A) y cc nL ret → ∀ (H : Heap) (locs : List Loc) (ls : Array Slot), va_P (dG D) classes w H → va_D A w → va_S A s.heap H locs → lv_has ls nL lv → W p (dl D) e R s m args below meth c H locs k n Q (F0 m pc ls st)
section FR1
variable {D : DX} {y : MethodName} {b : ByteArray} {nL : Nat} {r : Option FieldType} {rm : Room}
theorem ct_of {av : List Value} {w : va_W} {fin : Option Value → va_W → Prop} {lv0 : List (Nat × Value)} (hy : plainName y.cls = true) (hlen : (lg_sl av).length ≤ nL) (hlv : lv_args 0 av = lv0) (h : ∀ Γ : GX, J D Γ y b nL r rm (Qf D Γ rm fin) 0 0 w 0 lv0 []) : Ct D y b nL r rm av w fin := by
  intro sz
  refine Met.ofW (cc := b) (maxL := nL) (ret := r) hy rfl ?_
  intro p e s m args below meth c s₁ B hml hv
  obtain ⟨rfl, hsz, hP, hK, hD0, hZ, hX⟩ := hv
  subst hsz
  subst hlv
  have hD := hD0.self (sz := s.heap.size)
  have hts := atoms_spec (ws := .code y b nL r :: lw_g) B.pre
  have hl := lv_entry av (n := nL) hlen
  rw [lg_entry_eq]
  exact h (p, e, s, m, av.toArray, below, meth, c, va_A w s.heap.size) ⟨B.exec, B.bytes, B.returns, hml, findClass_of_methodNamed B.named, fun w hw => hts w (List.mem_cons_of_mem _ hw), B.notSynchronized, hK, fun q hq => Or.inr hq, (name_of_methodNamed B.named B.method).1, hZ, hX⟩ s.heap [] _ hP hD va_S.rf hl
theorem Ct.weaken {av : List Value} {w : va_W} {fin fin' : Option Value → va_W → Prop} (h : Ct D y b nL r rm av w fin) (hf : ∀ v w', fin v w' → fin' v w') : Ct D y b nL r rm av w fin' := by
  intro sz
  intro p e ha hc hk s m args below hfr happ hP hK
  obtain ⟨n, o, h1, h2, h3, ⟨⟨v, w', e1, e2, e3, e4⟩, hF⟩, hL⟩ := h sz p e ha hc hk s m args below hfr happ hP hK
  exact ⟨n, o, h1, h2, h3, ⟨⟨v, w', e1, hf v w' e2, e3, e4⟩, hF⟩, hL⟩
end FR1
/-! lists of cells -/
theorem wat {is : List Nat} {ws w : va_W} (hs : is.map (fun i => ws[i]?) = w.map some) (k : Nat) (q : Nat × va_E) (hq : w[k]? = some q) : ∃ i, is[k]? = some i ∧ ws[i]? = some q := by
  have h1 : (is.map (fun i => ws[i]?))[k]? = some (some q) := by rw [hs, List.getElem?_map, hq]; rfl
  rw [List.getElem?_map] at h1
  cases hi : is[k]? with
  | none => rw [hi] at h1; cases h1
  | some i => rw [hi] at h1; exact ⟨i, rfl, Option.some.inj h1⟩
def updw : va_W → List Nat → va_W → va_W
  | w, i :: is, q :: qs => updw (w.set i q) is qs
  | w, _, _ => w
theorem updw_at : ∀ (is : List Nat) (w w1 : va_W) (k : Nat) (q : Nat × va_E), (updw w is w1)[k]? = some q → is.length = w1.length → (∃ j : Nat, is[j]? = some k ∧ w1[j]? = some q) ∨ (k ∉ is ∧ w[k]? = some q)
  | [], w, w1, k, q, h, hl => by
    cases w1 with
    | nil => exact Or.inr ⟨List.not_mem_nil, h⟩
    | cons a t => simp at hl
  | i :: is, w, [], k, q, h, hl => by simp at hl
  | i :: is, w, a :: w1, k, q, h, hl => by
    rcases updw_at is (w.set i a) w1 k q h (by simpa using hl) with ⟨j, h1, h2⟩ | ⟨h1, h2⟩
    · exact Or.inl ⟨j + 1, h1, h2⟩
    · by_cases hk : k = i
      · subst hk
        rw [List.getElem?_set] at h2
        simp only [if_true] at h2
        split at h2
        · exact Or.inl ⟨0, rfl, h2⟩
        · cases h2
      · rw [List.getElem?_set_ne (fun e => hk e.symm)] at h2
        exact Or.inr ⟨fun hm => (List.mem_cons.mp hm).elim hk h1, h2⟩
theorem updw_addr : ∀ (is : List Nat) (w wc w1 : va_W), is.map (fun i => (w.map Prod.fst)[i]?) = (wc.map Prod.fst).map some → w1.map Prod.fst = wc.map Prod.fst → (updw w is w1).map Prod.fst = w.map Prod.fst
  | [], w, wc, w1, h, h1 => by cases w1 <;> rfl
  | i :: is, w, wc, [], h, h1 => rfl
  | i :: is, w, [], a :: w1, h, h1 => by simp at h1
  | i :: is, w, c :: wc, a :: w1, h, h1 => by
    simp only [List.map_cons, List.cons.injEq] at h h1
    have e : (w.set i a).map Prod.fst = w.map Prod.fst := by
      rw [List.map_set]
      apply List.ext_getElem?
      intro k
      rw [List.getElem?_set]
      by_cases hk : i = k
      · subst hk
        rw [if_pos rfl]
        rw [h.1, h1.1]
        have hlt : i < (w.map Prod.fst).length := by
          rcases Nat.lt_or_ge i (w.map Prod.fst).length with q | q
          · exact q
          · rw [List.getElem?_eq_none q] at h; cases h.1
        rw [if_pos hlt]
      · rw [if_neg hk]
    show (updw (w.set i a) is w1).map Prod.fst = w.map Prod.fst
    rw [updw_addr is (w.set i a) wc w1 (by rw [e]; exact h.2) h1.2, e]
theorem va_D_addr {A : Nat → Prop} {w w' : va_W} (h : va_D A w) (e : w'.map Prod.fst = w.map Prod.fst) : va_D A w' := by
  have at' : ∀ (k : Nat) (q : Nat × va_E), w'[k]? = some q → ∃ q', w[k]? = some q' ∧ q'.1 = q.1 := by
    intro k q hq
    have h1 : (w'.map Prod.fst)[k]? = some q.1 := by rw [List.getElem?_map, hq]; rfl
    rw [e, List.getElem?_map] at h1
    cases hw : w[k]? with
    | none => rw [hw] at h1; cases h1
    | some q' => rw [hw] at h1; exact ⟨q', rfl, Option.some.inj h1⟩
  refine ⟨fun i j p q hp hq hpq => ?_, fun k q hq => ?_⟩
  · obtain ⟨p', hp', ep⟩ := at' i p hp
    obtain ⟨q', hq', eq⟩ := at' j q hq
    exact h.1 i j p' q' hp' hq' (by rw [ep, eq, hpq])
  · obtain ⟨q', hq', eq⟩ := at' k q hq
    rw [← eq]; exact h.2 k q' hq'
/-- a cell's row may be told by another function that agrees in its range -/
theorem cell_cong {cA : ClassId} {n : Nat} {f g : Nat → Int32} (h : ∀ k, k < n → f k = g k) : vp_cell cA (n, .inl f) = vp_cell cA (n, .inl g) := by
  rw [vp_cell_i, vp_cell_i]
  unfold arrV
  have e : (fun j : Fin n => Value.int (f j.val)) = fun j => Value.int (g j.val) := funext fun j => by rw [h j.val j.isLt]
  rw [e]
end
section
section RU1
variable {D : DX} {Γ : GX} {y : MethodName} {cc : ByteArray} {nL : Nat} {ret : Option FieldType} {R : Room} {Q : State → Prop} {k n : Nat} {w : va_W} {pc : Nat} {lv : List (Nat × Value)} {st : List Value}

theorem j_iconst {z : Int} {v : Int32} (hdg : decode cc pc = .ok (.iconst z, 1)) (hv : Int32.ofInt z = v) (kk : J D Γ y cc nL ret R Q k n w (pc + 1) lv (.int v :: st)) : J D Γ y cc nL ret R Q k n w pc lv st := by
  obtain ⟨p, e, s, m, args, below, meth, c, A⟩ := Γ
  intro h H locs ls hP hD hS hl
  exact lv_iconst h.1 h.2.1 hdg hv (kk h H locs ls hP hD hS hl)
theorem j_bipush {z : Int} {v : Int32} (hdg : decode cc pc = .ok (.bipush z, 2)) (hv : (Int8.ofInt z).toInt32 = v) (kk : J D Γ y cc nL ret R Q k n w (pc + 2) lv (.int v :: st)) : J D Γ y cc nL ret R Q k n w pc lv st := by
  obtain ⟨p, e, s, m, args, below, meth, c, A⟩ := Γ
  intro h H locs ls hP hD hS hl
  exact lv_bipush h.1 h.2.1 hdg hv (kk h H locs ls hP hD hS hl)
theorem j_sipush {z : Int} {v : Int32} (hdg : decode cc pc = .ok (.sipush z, 3)) (hv : (Int16.ofInt z).toInt32 = v) (kk : J D Γ y cc nL ret R Q k n w (pc + 3) lv (.int v :: st)) : J D Γ y cc nL ret R Q k n w pc lv st := by
  obtain ⟨p, e, s, m, args, below, meth, c, A⟩ := Γ
  intro h H locs ls hP hD hS hl
  exact lv_sipush h.1 h.2.1 hdg hv (kk h H locs ls hP hD hS hl)
theorem j_lconst {z : Fin 2} {v : Int64} (hdg : decode cc pc = .ok (.lconst z, 1)) (hv : Int64.ofNat (z : Nat) = v) (kk : J D Γ y cc nL ret R Q k n w (pc + 1) lv (.long v :: st)) : J D Γ y cc nL ret R Q k n w pc lv st := by
  obtain ⟨p, e, s, m, args, below, meth, c, A⟩ := Γ
  intro h H locs ls hP hD hS hl
  exact lv_lconst h.1 h.2.1 hdg hv (kk h H locs ls hP hD hS hl)
theorem j_iload_n {j : Fin 4} {x : Int32} (hdg : decode cc pc = .ok (.iload_n j, 1)) (q : Nat) (hq : lv[q]? = some (j.val, .int x)) (kk : J D Γ y cc nL ret R Q k n w (pc + 1) lv (.int x :: st)) : J D Γ y cc nL ret R Q k n w pc lv st := by
  obtain ⟨p, e, s, m, args, below, meth, c, A⟩ := Γ
  intro h H locs ls hP hD hS hl
  exact lv_iload_n h.1 h.2.1 hdg rfl (lv_at hl q hq) (kk h H locs ls hP hD hS hl)
theorem j_iload {j : Nat} {x : Int32} (hdg : decode cc pc = .ok (.iload j, 2)) (q : Nat) (hq : lv[q]? = some (j, .int x)) (kk : J D Γ y cc nL ret R Q k n w (pc + 2) lv (.int x :: st)) : J D Γ y cc nL ret R Q k n w pc lv st := by
  obtain ⟨p, e, s, m, args, below, meth, c, A⟩ := Γ
  intro h H locs ls hP hD hS hl
  exact lv_iload h.1 h.2.1 hdg (lv_at hl q hq) (kk h H locs ls hP hD hS hl)
theorem j_lload_n {j : Fin 4} {x : Int64} (hdg : decode cc pc = .ok (.lload_n j, 1)) (q : Nat) (hq : lv[q]? = some (j.val, .long x)) (kk : J D Γ y cc nL ret R Q k n w (pc + 1) lv (.long x :: st)) : J D Γ y cc nL ret R Q k n w pc lv st := by
  obtain ⟨p, e, s, m, args, below, meth, c, A⟩ := Γ
  intro h H locs ls hP hD hS hl
  exact lv_lload_n h.1 h.2.1 hdg rfl (lv_at hl q hq) (kk h H locs ls hP hD hS hl)
theorem j_lload {j : Nat} {x : Int64} (hdg : decode cc pc = .ok (.lload j, 2)) (q : Nat) (hq : lv[q]? = some (j, .long x)) (kk : J D Γ y cc nL ret R Q k n w (pc + 2) lv (.long x :: st)) : J D Γ y cc nL ret R Q k n w pc lv st := by
  obtain ⟨p, e, s, m, args, below, meth, c, A⟩ := Γ
  intro h H locs ls hP hD hS hl
  exact lv_lload h.1 h.2.1 hdg (lv_at hl q hq) (kk h H locs ls hP hD hS hl)
theorem j_aload_n {j : Fin 4} {x : Nat} (hdg : decode cc pc = .ok (.aload_n j, 1)) (q : Nat) (hq : lv[q]? = some (j.val, .ref x)) (kk : J D Γ y cc nL ret R Q k n w (pc + 1) lv (.ref x :: st)) : J D Γ y cc nL ret R Q k n w pc lv st := by
  obtain ⟨p, e, s, m, args, below, meth, c, A⟩ := Γ
  intro h H locs ls hP hD hS hl
  exact lv_aload_n h.1 h.2.1 hdg rfl (lv_at hl q hq) (kk h H locs ls hP hD hS hl)
theorem j_aload {j : Nat} {x : Nat} (hdg : decode cc pc = .ok (.aload j, 2)) (q : Nat) (hq : lv[q]? = some (j, .ref x)) (kk : J D Γ y cc nL ret R Q k n w (pc + 2) lv (.ref x :: st)) : J D Γ y cc nL ret R Q k n w pc lv st := by
  obtain ⟨p, e, s, m, args, below, meth, c, A⟩ := Γ
  intro h H locs ls hP hD hS hl
  exact lv_aload h.1 h.2.1 hdg (lv_at hl q hq) (kk h H locs ls hP hD hS hl)
theorem j_istore_n {j : Fin 4} {x : Int32} {lv2 : List (Nat × Value)} (hdg : decode cc pc = .ok (.istore_n j, 1)) (hn : j.val < nL) (ks : List Nat) (hk : lv_pick ((j.val, .int x) :: lv.filter (fun q => !(q.1 == j.val) && !(q.1 + 1 == j.val && q.2.category == 2))) ks = lv2) (kk : J D Γ y cc nL ret R Q k n w (pc + 1) lv2 st) : J D Γ y cc nL ret R Q k n w pc lv (.int x :: st) := by
  obtain ⟨p, e, s, m, args, below, meth, c, A⟩ := Γ
  intro h H locs ls hP hD hS hl
  exact lv_istore_n h.1 h.2.1 hdg rfl hl hn rfl (fun ls hl => kk h H locs ls hP hD hS (lv_sub hl ks hk))
theorem j_istore {j : Nat} {x : Int32} {lv2 : List (Nat × Value)} (hdg : decode cc pc = .ok (.istore j, 2)) (hn : j < nL) (ks : List Nat) (hk : lv_pick ((j, .int x) :: lv.filter (fun q => !(q.1 == j) && !(q.1 + 1 == j && q.2.category == 2))) ks = lv2) (kk : J D Γ y cc nL ret R Q k n w (pc + 2) lv2 st) : J D Γ y cc nL ret R Q k n w pc lv (.int x :: st) := by
  obtain ⟨p, e, s, m, args, below, meth, c, A⟩ := Γ
  intro h H locs ls hP hD hS hl
  exact lv_istore h.1 h.2.1 hdg hl hn rfl (fun ls hl => kk h H locs ls hP hD hS (lv_sub hl ks hk))
theorem j_lstore_n {j : Fin 4} {x : Int64} {lv2 : List (Nat × Value)} (hdg : decode cc pc = .ok (.lstore_n j, 1)) (hn : j.val + 1 < nL) (ks : List Nat) (hk : lv_pick ((j.val, .long x) :: lv.filter (fun q => !(q.1 == j.val) && (!(q.1 == j.val + 1) && !(q.1 + 1 == j.val && q.2.category == 2)))) ks = lv2) (kk : J D Γ y cc nL ret R Q k n w (pc + 1) lv2 st) : J D Γ y cc nL ret R Q k n w pc lv (.long x :: st) := by
  obtain ⟨p, e, s, m, args, below, meth, c, A⟩ := Γ
  intro h H locs ls hP hD hS hl
  exact lv_lstore_n h.1 h.2.1 hdg rfl hl hn rfl (fun ls hl => kk h H locs ls hP hD hS (lv_sub hl ks hk))
theorem j_lstore {j : Nat} {x : Int64} {lv2 : List (Nat × Value)} (hdg : decode cc pc = .ok (.lstore j, 2)) (hn : j + 1 < nL) (ks : List Nat) (hk : lv_pick ((j, .long x) :: lv.filter (fun q => !(q.1 == j) && (!(q.1 == j + 1) && !(q.1 + 1 == j && q.2.category == 2)))) ks = lv2) (kk : J D Γ y cc nL ret R Q k n w (pc + 2) lv2 st) : J D Γ y cc nL ret R Q k n w pc lv (.long x :: st) := by
  obtain ⟨p, e, s, m, args, below, meth, c, A⟩ := Γ
  intro h H locs ls hP hD hS hl
  exact lv_lstore h.1 h.2.1 hdg hl hn rfl (fun ls hl => kk h H locs ls hP hD hS (lv_sub hl ks hk))
theorem j_astore_n {j : Fin 4} {x : Nat} {lv2 : List (Nat × Value)} (hdg : decode cc pc = .ok (.astore_n j, 1)) (hn : j.val < nL) (ks : List Nat) (hk : lv_pick ((j.val, .ref x) :: lv.filter (fun q => !(q.1 == j.val) && !(q.1 + 1 == j.val && q.2.category == 2))) ks = lv2) (kk : J D Γ y cc nL ret R Q k n w (pc + 1) lv2 st) : J D Γ y cc nL ret R Q k n w pc lv (.ref x :: st) := by
  obtain ⟨p, e, s, m, args, below, meth, c, A⟩ := Γ
  intro h H locs ls hP hD hS hl
  exact lv_astore_n h.1 h.2.1 hdg rfl hl hn rfl (fun ls hl => kk h H locs ls hP hD hS (lv_sub hl ks hk))
theorem j_astore {j : Nat} {x : Nat} {lv2 : List (Nat × Value)} (hdg : decode cc pc = .ok (.astore j, 2)) (hn : j < nL) (ks : List Nat) (hk : lv_pick ((j, .ref x) :: lv.filter (fun q => !(q.1 == j) && !(q.1 + 1 == j && q.2.category == 2))) ks = lv2) (kk : J D Γ y cc nL ret R Q k n w (pc + 2) lv2 st) : J D Γ y cc nL ret R Q k n w pc lv (.ref x :: st) := by
  obtain ⟨p, e, s, m, args, below, meth, c, A⟩ := Γ
  intro h H locs ls hP hD hS hl
  exact lv_astore h.1 h.2.1 hdg hl hn rfl (fun ls hl => kk h H locs ls hP hD hS (lv_sub hl ks hk))
theorem j_iinc {j : Nat} {z : Int} {x v : Int32} {lv2 : List (Nat × Value)} (hdg : decode cc pc = .ok (.iinc j z, 3)) (q : Nat) (hq : lv[q]? = some (j, .int x)) (hv : x + Int32.ofInt z = v) (hn : j < nL) (ks : List Nat) (hk : lv_pick ((j, .int v) :: lv.filter (fun q => !(q.1 == j) && !(q.1 + 1 == j && q.2.category == 2))) ks = lv2) (kk : J D Γ y cc nL ret R Q k n w (pc + 3) lv2 st) : J D Γ y cc nL ret R Q k n w pc lv st := by
  obtain ⟨p, e, s, m, args, below, meth, c, A⟩ := Γ
  intro h H locs ls hP hD hS hl
  exact lv_iinc h.1 h.2.1 hdg hl hq hv hn rfl (fun ls hl => kk h H locs ls hP hD hS (lv_sub hl ks hk))
theorem j_iadd {x z v : Int32} (hdg : decode cc pc = .ok (.iadd, 1)) (hv : x + z = v) (kk : J D Γ y cc nL ret R Q k n w (pc + 1) lv (.int v :: st)) : J D Γ y cc nL ret R Q k n w pc lv (.int z :: .int x :: st) := by
  obtain ⟨p, e, s, m, args, below, meth, c, A⟩ := Γ
  intro h H locs ls hP hD hS hl
  exact lv_iadd h.1 h.2.1 hdg (by rw [hv]; exact (kk h H locs ls hP hD hS hl))
theorem j_isub {x z v : Int32} (hdg : decode cc pc = .ok (.isub, 1)) (hv : x - z = v) (kk : J D Γ y cc nL ret R Q k n w (pc + 1) lv (.int v :: st)) : J D Γ y cc nL ret R Q k n w pc lv (.int z :: .int x :: st) := by
  obtain ⟨p, e, s, m, args, below, meth, c, A⟩ := Γ
  intro h H locs ls hP hD hS hl
  exact lv_isub h.1 h.2.1 hdg (by rw [hv]; exact (kk h H locs ls hP hD hS hl))
theorem j_imul {x z v : Int32} (hdg : decode cc pc = .ok (.imul, 1)) (hv : x * z = v) (kk : J D Γ y cc nL ret R Q k n w (pc + 1) lv (.int v :: st)) : J D Γ y cc nL ret R Q k n w pc lv (.int z :: .int x :: st) := by
  obtain ⟨p, e, s, m, args, below, meth, c, A⟩ := Γ
  intro h H locs ls hP hD hS hl
  exact lv_imul h.1 h.2.1 hdg (by rw [hv]; exact (kk h H locs ls hP hD hS hl))
theorem j_iand {x z v : Int32} (hdg : decode cc pc = .ok (.iand, 1)) (hv : x &&& z = v) (kk : J D Γ y cc nL ret R Q k n w (pc + 1) lv (.int v :: st)) : J D Γ y cc nL ret R Q k n w pc lv (.int z :: .int x :: st) := by
  obtain ⟨p, e, s, m, args, below, meth, c, A⟩ := Γ
  intro h H locs ls hP hD hS hl
  exact lv_iand h.1 h.2.1 hdg (by rw [hv]; exact (kk h H locs ls hP hD hS hl))
theorem j_ior {x z v : Int32} (hdg : decode cc pc = .ok (.ior, 1)) (hv : x ||| z = v) (kk : J D Γ y cc nL ret R Q k n w (pc + 1) lv (.int v :: st)) : J D Γ y cc nL ret R Q k n w pc lv (.int z :: .int x :: st) := by
  obtain ⟨p, e, s, m, args, below, meth, c, A⟩ := Γ
  intro h H locs ls hP hD hS hl
  exact lv_ior h.1 h.2.1 hdg (by rw [hv]; exact (kk h H locs ls hP hD hS hl))
theorem j_ixor {x z v : Int32} (hdg : decode cc pc = .ok (.ixor, 1)) (hv : x ^^^ z = v) (kk : J D Γ y cc nL ret R Q k n w (pc + 1) lv (.int v :: st)) : J D Γ y cc nL ret R Q k n w pc lv (.int z :: .int x :: st) := by
  obtain ⟨p, e, s, m, args, below, meth, c, A⟩ := Γ
  intro h H locs ls hP hD hS hl
  exact lv_ixor h.1 h.2.1 hdg (by rw [hv]; exact (kk h H locs ls hP hD hS hl))
theorem j_ladd {x z v : Int64} (hdg : decode cc pc = .ok (.ladd, 1)) (hv : x + z = v) (kk : J D Γ y cc nL ret R Q k n w (pc + 1) lv (.long v :: st)) : J D Γ y cc nL ret R Q k n w pc lv (.long z :: .long x :: st) := by
  obtain ⟨p, e, s, m, args, below, meth, c, A⟩ := Γ
  intro h H locs ls hP hD hS hl
  exact lv_ladd h.1 h.2.1 hdg (by rw [hv]; exact (kk h H locs ls hP hD hS hl))
theorem j_lsub {x z v : Int64} (hdg : decode cc pc = .ok (.lsub, 1)) (hv : x - z = v) (kk : J D Γ y cc nL ret R Q k n w (pc + 1) lv (.long v :: st)) : J D Γ y cc nL ret R Q k n w pc lv (.long z :: .long x :: st) := by
  obtain ⟨p, e, s, m, args, below, meth, c, A⟩ := Γ
  intro h H locs ls hP hD hS hl
  exact lv_lsub h.1 h.2.1 hdg (by rw [hv]; exact (kk h H locs ls hP hD hS hl))
theorem j_land {x z v : Int64} (hdg : decode cc pc = .ok (.land, 1)) (hv : x &&& z = v) (kk : J D Γ y cc nL ret R Q k n w (pc + 1) lv (.long v :: st)) : J D Γ y cc nL ret R Q k n w pc lv (.long z :: .long x :: st) := by
  obtain ⟨p, e, s, m, args, below, meth, c, A⟩ := Γ
  intro h H locs ls hP hD hS hl
  exact lv_land h.1 h.2.1 hdg (by rw [hv]; exact (kk h H locs ls hP hD hS hl))
theorem j_lor {x z v : Int64} (hdg : decode cc pc = .ok (.lor, 1)) (hv : x ||| z = v) (kk : J D Γ y cc nL ret R Q k n w (pc + 1) lv (.long v :: st)) : J D Γ y cc nL ret R Q k n w pc lv (.long z :: .long x :: st) := by
  obtain ⟨p, e, s, m, args, below, meth, c, A⟩ := Γ
  intro h H locs ls hP hD hS hl
  exact lv_lor h.1 h.2.1 hdg (by rw [hv]; exact (kk h H locs ls hP hD hS hl))
theorem j_idiv {x z v : Int32} (hdg : decode cc pc = .ok (.idiv, 1)) (hne : ¬ z = 0) (hv : x / z = v) (kk : J D Γ y cc nL ret R Q k n w (pc + 1) lv (.int v :: st)) : J D Γ y cc nL ret R Q k n w pc lv (.int z :: .int x :: st) := by
  obtain ⟨p, e, s, m, args, below, meth, c, A⟩ := Γ
  intro h H locs ls hP hD hS hl
  exact lv_idiv h.1 h.2.1 hdg hne (by rw [hv]; exact (kk h H locs ls hP hD hS hl))
theorem j_irem {x z v : Int32} (hdg : decode cc pc = .ok (.irem, 1)) (hne : ¬ z = 0) (hv : x - x / z * z = v) (kk : J D Γ y cc nL ret R Q k n w (pc + 1) lv (.int v :: st)) : J D Γ y cc nL ret R Q k n w pc lv (.int z :: .int x :: st) := by
  obtain ⟨p, e, s, m, args, below, meth, c, A⟩ := Γ
  intro h H locs ls hP hD hS hl
  exact lv_irem h.1 h.2.1 hdg hne (by rw [hv]; exact (kk h H locs ls hP hD hS hl))
theorem j_ineg {x v : Int32} (hdg : decode cc pc = .ok (.ineg, 1)) (hv : -x = v) (kk : J D Γ y cc nL ret R Q k n w (pc + 1) lv (.int v :: st)) : J D Γ y cc nL ret R Q k n w pc lv (.int x :: st) := by
  obtain ⟨p, e, s, m, args, below, meth, c, A⟩ := Γ
  intro h H locs ls hP hD hS hl
  exact lv_ineg h.1 h.2.1 hdg (by rw [hv]; exact (kk h H locs ls hP hD hS hl))
theorem j_ishl {x z v : Int32} (hdg : decode cc pc = .ok (.ishl, 1)) (hv : x <<< (z &&& 31) = v) (kk : J D Γ y cc nL ret R Q k n w (pc + 1) lv (.int v :: st)) : J D Γ y cc nL ret R Q k n w pc lv (.int z :: .int x :: st) := by
  obtain ⟨p, e, s, m, args, below, meth, c, A⟩ := Γ
  intro h H locs ls hP hD hS hl
  exact lv_ishl h.1 h.2.1 hdg (by rw [hv]; exact (kk h H locs ls hP hD hS hl))
theorem j_lushr {x v : Int64} {z : Int32} (hdg : decode cc pc = .ok (.lushr, 1)) (hv : (x.toUInt64 >>> (z.toInt64.toUInt64 &&& Int64.toUInt64 63)).toInt64 = v) (kk : J D Γ y cc nL ret R Q k n w (pc + 1) lv (.long v :: st)) : J D Γ y cc nL ret R Q k n w pc lv (.int z :: .long x :: st) := by
  obtain ⟨p, e, s, m, args, below, meth, c, A⟩ := Γ
  intro h H locs ls hP hD hS hl
  exact lv_lushr h.1 h.2.1 hdg hv (kk h H locs ls hP hD hS hl)
theorem j_lshl {x v : Int64} {z : Int32} (hdg : decode cc pc = .ok (.lshl, 1)) (hv : x <<< (z.toInt64 &&& 63) = v) (kk : J D Γ y cc nL ret R Q k n w (pc + 1) lv (.long v :: st)) : J D Γ y cc nL ret R Q k n w pc lv (.int z :: .long x :: st) := by
  obtain ⟨p, e, s, m, args, below, meth, c, A⟩ := Γ
  intro h H locs ls hP hD hS hl
  exact lv_lshl h.1 h.2.1 hdg hv (kk h H locs ls hP hD hS hl)
theorem j_lshr {x v : Int64} {z : Int32} (hdg : decode cc pc = .ok (.lshr, 1)) (hv : x >>> (z.toInt64 &&& 63) = v) (kk : J D Γ y cc nL ret R Q k n w (pc + 1) lv (.long v :: st)) : J D Γ y cc nL ret R Q k n w pc lv (.int z :: .long x :: st) := by
  obtain ⟨p, e, s, m, args, below, meth, c, A⟩ := Γ
  intro h H locs ls hP hD hS hl
  exact lv_lshr h.1 h.2.1 hdg hv (kk h H locs ls hP hD hS hl)
theorem j_l2i {x : Int64} {v : Int32} (hdg : decode cc pc = .ok (.l2i, 1)) (hv : x.toInt32 = v) (kk : J D Γ y cc nL ret R Q k n w (pc + 1) lv (.int v :: st)) : J D Γ y cc nL ret R Q k n w pc lv (.long x :: st) := by
  obtain ⟨p, e, s, m, args, below, meth, c, A⟩ := Γ
  intro h H locs ls hP hD hS hl
  exact lv_l2i h.1 h.2.1 hdg hv (kk h H locs ls hP hD hS hl)
theorem j_dup {va : Value} (hdg : decode cc pc = .ok (.dup, 1)) (hva : va.category = 1) (kk : J D Γ y cc nL ret R Q k n w (pc + 1) lv (va :: va :: st)) : J D Γ y cc nL ret R Q k n w pc lv (va :: st) := by
  obtain ⟨p, e, s, m, args, below, meth, c, A⟩ := Γ
  intro h H locs ls hP hD hS hl
  exact lv_dup h.1 h.2.1 hdg hva (kk h H locs ls hP hD hS hl)
theorem j_pop {va : Value} (hdg : decode cc pc = .ok (.pop, 1)) (hva : va.category = 1) (kk : J D Γ y cc nL ret R Q k n w (pc + 1) lv st) : J D Γ y cc nL ret R Q k n w pc lv (va :: st) := by
  obtain ⟨p, e, s, m, args, below, meth, c, A⟩ := Γ
  intro h H locs ls hP hD hS hl
  exact lv_pop h.1 h.2.1 hdg hva (kk h H locs ls hP hD hS hl)
theorem j_dup2 {va vb : Value} (hdg : decode cc pc = .ok (.dup2, 1)) (hva : va.category = 1) (hvb : vb.category = 1) (kk : J D Γ y cc nL ret R Q k n w (pc + 1) lv (va :: vb :: va :: vb :: st)) : J D Γ y cc nL ret R Q k n w pc lv (va :: vb :: st) := by
  obtain ⟨p, e, s, m, args, below, meth, c, A⟩ := Γ
  intro h H locs ls hP hD hS hl
  exact lv_dup2_11 h.1 h.2.1 hdg hva hvb (kk h H locs ls hP hD hS hl)
-- if_eq ::     (kt : x = 0 → W p l e R s m args below meth c H locs cells slots Q (F0 m tgt ls rest)) (kf : ¬ x = 0 → W p l e R s m args below meth c H locs cells slots Q (F0 m (pc + 3) ls rest)) : W p l e R s m args below meth c H locs cells slots Q (F0 m pc ls (.int x 
theorem j_if_eq {x : Int32} {off : Int} {tgt : Nat} (hdg : decode cc pc = .ok (.ifCond .eq off, 3)) (ht : (pc : Int) + off = (tgt : Int)) (k1 : x = 0 → J D Γ y cc nL ret R Q k n w tgt lv st) (k2 : ¬ x = 0 → J D Γ y cc nL ret R Q k n w (pc + 3) lv st) : J D Γ y cc nL ret R Q k n w pc lv (.int x :: st) := by
  obtain ⟨p, e, s, m, args, below, meth, c, A⟩ := Γ
  intro h H locs ls hP hD hS hl
  exact lv_if_eq h.1 h.2.1 hdg ht (fun q => k1 q h H locs ls hP hD hS hl) (fun q => k2 q h H locs ls hP hD hS hl)
-- icmp_eq ::     (kt : x = y → W p l e R s m args below meth c H locs cells slots Q (F0 m tgt ls rest)) (kf : ¬ x = y → W p l e R s m args below meth c H locs cells slots Q (F0 m (pc + 3) ls rest)) : W p l e R s m args below meth c H locs cells slots Q (F0 m pc ls (.int y 
theorem j_icmp_eq {x z : Int32} {off : Int} {tgt : Nat} (hdg : decode cc pc = .ok (.if_icmp .eq off, 3)) (ht : (pc : Int) + off = (tgt : Int)) (k1 : x = z → J D Γ y cc nL ret R Q k n w tgt lv st) (k2 : ¬ x = z → J D Γ y cc nL ret R Q k n w (pc + 3) lv st) : J D Γ y cc nL ret R Q k n w pc lv (.int z :: .int x :: st) := by
  obtain ⟨p, e, s, m, args, below, meth, c, A⟩ := Γ
  intro h H locs ls hP hD hS hl
  exact lv_icmp_eq h.1 h.2.1 hdg ht (fun q => k1 q h H locs ls hP hD hS hl) (fun q => k2 q h H locs ls hP hD hS hl)
-- if_ne ::     (kt : ¬ x = 0 → W p l e R s m args below meth c H locs cells slots Q (F0 m tgt ls rest)) (kf : x = 0 → W p l e R s m args below meth c H locs cells slots Q (F0 m (pc + 3) ls rest)) : W p l e R s m args below meth c H locs cells slots Q (F0 m pc ls (.int x 
theorem j_if_ne {x : Int32} {off : Int} {tgt : Nat} (hdg : decode cc pc = .ok (.ifCond .ne off, 3)) (ht : (pc : Int) + off = (tgt : Int)) (k1 : ¬ x = 0 → J D Γ y cc nL ret R Q k n w tgt lv st) (k2 : x = 0 → J D Γ y cc nL ret R Q k n w (pc + 3) lv st) : J D Γ y cc nL ret R Q k n w pc lv (.int x :: st) := by
  obtain ⟨p, e, s, m, args, below, meth, c, A⟩ := Γ
  intro h H locs ls hP hD hS hl
  exact lv_if_ne h.1 h.2.1 hdg ht (fun q => k1 q h H locs ls hP hD hS hl) (fun q => k2 q h H locs ls hP hD hS hl)
-- icmp_ne ::     (kt : ¬ x = y → W p l e R s m args below meth c H locs cells slots Q (F0 m tgt ls rest)) (kf : x = y → W p l e R s m args below meth c H locs cells slots Q (F0 m (pc + 3) ls rest)) : W p l e R s m args below meth c H locs cells slots Q (F0 m pc ls (.int y 
theorem j_icmp_ne {x z : Int32} {off : Int} {tgt : Nat} (hdg : decode cc pc = .ok (.if_icmp .ne off, 3)) (ht : (pc : Int) + off = (tgt : Int)) (k1 : ¬ x = z → J D Γ y cc nL ret R Q k n w tgt lv st) (k2 : x = z → J D Γ y cc nL ret R Q k n w (pc + 3) lv st) : J D Γ y cc nL ret R Q k n w pc lv (.int z :: .int x :: st) := by
  obtain ⟨p, e, s, m, args, below, meth, c, A⟩ := Γ
  intro h H locs ls hP hD hS hl
  exact lv_icmp_ne h.1 h.2.1 hdg ht (fun q => k1 q h H locs ls hP hD hS hl) (fun q => k2 q h H locs ls hP hD hS hl)
-- if_lt ::     (kt : x < 0 → W p l e R s m args below meth c H locs cells slots Q (F0 m tgt ls rest)) (kf : ¬ x < 0 → W p l e R s m args below meth c H locs cells slots Q (F0 m (pc + 3) ls rest)) : W p l e R s m args below meth c H locs cells slots Q (F0 m pc ls (.int x 
theorem j_if_lt {x : Int32} {off : Int} {tgt : Nat} (hdg : decode cc pc = .ok (.ifCond .lt off, 3)) (ht : (pc : Int) + off = (tgt : Int)) (k1 : x < 0 → J D Γ y cc nL ret R Q k n w tgt lv st) (k2 : ¬ x < 0 → J D Γ y cc nL ret R Q k n w (pc + 3) lv st) : J D Γ y cc nL ret R Q k n w pc lv (.int x :: st) := by
  obtain ⟨p, e, s, m, args, below, meth, c, A⟩ := Γ
  intro h H locs ls hP hD hS hl
  exact lv_if_lt h.1 h.2.1 hdg ht (fun q => k1 q h H locs ls hP hD hS hl) (fun q => k2 q h H locs ls hP hD hS hl)
-- icmp_lt ::     (kt : x < y → W p l e R s m args below meth c H locs cells slots Q (F0 m tgt ls rest)) (kf : ¬ x < y → W p l e R s m args below meth c H locs cells slots Q (F0 m (pc + 3) ls rest)) : W p l e R s m args below meth c H locs cells slots Q (F0 m pc ls (.int y 
theorem j_icmp_lt {x z : Int32} {off : Int} {tgt : Nat} (hdg : decode cc pc = .ok (.if_icmp .lt off, 3)) (ht : (pc : Int) + off = (tgt : Int)) (k1 : x < z → J D Γ y cc nL ret R Q k n w tgt lv st) (k2 : ¬ x < z → J D Γ y cc nL ret R Q k n w (pc + 3) lv st) : J D Γ y cc nL ret R Q k n w pc lv (.int z :: .int x :: st) := by
  obtain ⟨p, e, s, m, args, below, meth, c, A⟩ := Γ
  intro h H locs ls hP hD hS hl
  exact lv_icmp_lt h.1 h.2.1 hdg ht (fun q => k1 q h H locs ls hP hD hS hl) (fun q => k2 q h H locs ls hP hD hS hl)
-- if_ge ::     (kt : 0 ≤ x → W p l e R s m args below meth c H locs cells slots Q (F0 m tgt ls rest)) (kf : ¬ 0 ≤ x → W p l e R s m args below meth c H locs cells slots Q (F0 m (pc + 3) ls rest)) : W p l e R s m args below meth c H locs cells slots Q (F0 m pc ls (.int x 
theorem j_if_ge {x : Int32} {off : Int} {tgt : Nat} (hdg : decode cc pc = .ok (.ifCond .ge off, 3)) (ht : (pc : Int) + off = (tgt : Int)) (k1 : 0 ≤ x → J D Γ y cc nL ret R Q k n w tgt lv st) (k2 : ¬ 0 ≤ x → J D Γ y cc nL ret R Q k n w (pc + 3) lv st) : J D Γ y cc nL ret R Q k n w pc lv (.int x :: st) := by
  obtain ⟨p, e, s, m, args, below, meth, c, A⟩ := Γ
  intro h H locs ls hP hD hS hl
  exact lv_if_ge h.1 h.2.1 hdg ht (fun q => k1 q h H locs ls hP hD hS hl) (fun q => k2 q h H locs ls hP hD hS hl)
-- icmp_ge ::     (kt : y ≤ x → W p l e R s m args below meth c H locs cells slots Q (F0 m tgt ls rest)) (kf : ¬ y ≤ x → W p l e R s m args below meth c H locs cells slots Q (F0 m (pc + 3) ls rest)) : W p l e R s m args below meth c H locs cells slots Q (F0 m pc ls (.int y 
theorem j_icmp_ge {x z : Int32} {off : Int} {tgt : Nat} (hdg : decode cc pc = .ok (.if_icmp .ge off, 3)) (ht : (pc : Int) + off = (tgt : Int)) (k1 : z ≤ x → J D Γ y cc nL ret R Q k n w tgt lv st) (k2 : ¬ z ≤ x → J D Γ y cc nL ret R Q k n w (pc + 3) lv st) : J D Γ y cc nL ret R Q k n w pc lv (.int z :: .int x :: st) := by
  obtain ⟨p, e, s, m, args, below, meth, c, A⟩ := Γ
  intro h H locs ls hP hD hS hl
  exact lv_icmp_ge h.1 h.2.1 hdg ht (fun q => k1 q h H locs ls hP hD hS hl) (fun q => k2 q h H locs ls hP hD hS hl)
-- if_gt ::     (kt : 0 < x → W p l e R s m args below meth c H locs cells slots Q (F0 m tgt ls rest)) (kf : ¬ 0 < x → W p l e R s m args below meth c H locs cells slots Q (F0 m (pc + 3) ls rest)) : W p l e R s m args below meth c H locs cells slots Q (F0 m pc ls (.int x 
theorem j_if_gt {x : Int32} {off : Int} {tgt : Nat} (hdg : decode cc pc = .ok (.ifCond .gt off, 3)) (ht : (pc : Int) + off = (tgt : Int)) (k1 : 0 < x → J D Γ y cc nL ret R Q k n w tgt lv st) (k2 : ¬ 0 < x → J D Γ y cc nL ret R Q k n w (pc + 3) lv st) : J D Γ y cc nL ret R Q k n w pc lv (.int x :: st) := by
  obtain ⟨p, e, s, m, args, below, meth, c, A⟩ := Γ
  intro h H locs ls hP hD hS hl
  exact lv_if_gt h.1 h.2.1 hdg ht (fun q => k1 q h H locs ls hP hD hS hl) (fun q => k2 q h H locs ls hP hD hS hl)
-- icmp_gt ::     (kt : y < x → W p l e R s m args below meth c H locs cells slots Q (F0 m tgt ls rest)) (kf : ¬ y < x → W p l e R s m args below meth c H locs cells slots Q (F0 m (pc + 3) ls rest)) : W p l e R s m args below meth c H locs cells slots Q (F0 m pc ls (.int y 
theorem j_icmp_gt {x z : Int32} {off : Int} {tgt : Nat} (hdg : decode cc pc = .ok (.if_icmp .gt off, 3)) (ht : (pc : Int) + off = (tgt : Int)) (k1 : z < x → J D Γ y cc nL ret R Q k n w tgt lv st) (k2 : ¬ z < x → J D Γ y cc nL ret R Q k n w (pc + 3) lv st) : J D Γ y cc nL ret R Q k n w pc lv (.int z :: .int x :: st) := by
  obtain ⟨p, e, s, m, args, below, meth, c, A⟩ := Γ
  intro h H locs ls hP hD hS hl
  exact lv_icmp_gt h.1 h.2.1 hdg ht (fun q => k1 q h H locs ls hP hD hS hl) (fun q => k2 q h H locs ls hP hD hS hl)
-- if_le ::     (kt : x ≤ 0 → W p l e R s m args below meth c H locs cells slots Q (F0 m tgt ls rest)) (kf : ¬ x ≤ 0 → W p l e R s m args below meth c H locs cells slots Q (F0 m (pc + 3) ls rest)) : W p l e R s m args below meth c H locs cells slots Q (F0 m pc ls (.int x 
theorem j_if_le {x : Int32} {off : Int} {tgt : Nat} (hdg : decode cc pc = .ok (.ifCond .le off, 3)) (ht : (pc : Int) + off = (tgt : Int)) (k1 : x ≤ 0 → J D Γ y cc nL ret R Q k n w tgt lv st) (k2 : ¬ x ≤ 0 → J D Γ y cc nL ret R Q k n w (pc + 3) lv st) : J D Γ y cc nL ret R Q k n w pc lv (.int x :: st) := by
  obtain ⟨p, e, s, m, args, below, meth, c, A⟩ := Γ
  intro h H locs ls hP hD hS hl
  exact lv_if_le h.1 h.2.1 hdg ht (fun q => k1 q h H locs ls hP hD hS hl) (fun q => k2 q h H locs ls hP hD hS hl)
-- icmp_le ::     (kt : x ≤ y → W p l e R s m args below meth c H locs cells slots Q (F0 m tgt ls rest)) (kf : ¬ x ≤ y → W p l e R s m args below meth c H locs cells slots Q (F0 m (pc + 3) ls rest)) : W p l e R s m args below meth c H locs cells slots Q (F0 m pc ls (.int y 
theorem j_icmp_le {x z : Int32} {off : Int} {tgt : Nat} (hdg : decode cc pc = .ok (.if_icmp .le off, 3)) (ht : (pc : Int) + off = (tgt : Int)) (k1 : x ≤ z → J D Γ y cc nL ret R Q k n w tgt lv st) (k2 : ¬ x ≤ z → J D Γ y cc nL ret R Q k n w (pc + 3) lv st) : J D Γ y cc nL ret R Q k n w pc lv (.int z :: .int x :: st) := by
  obtain ⟨p, e, s, m, args, below, meth, c, A⟩ := Γ
  intro h H locs ls hP hD hS hl
  exact lv_icmp_le h.1 h.2.1 hdg ht (fun q => k1 q h H locs ls hP hD hS hl) (fun q => k2 q h H locs ls hP hD hS hl)
theorem j_goto {off : Int} {tgt : Nat} (hdg : decode cc pc = .ok (.goto off, 3)) (ht : (pc : Int) + off = (tgt : Int)) (kk : J D Γ y cc nL ret R Q k n w tgt lv st) : J D Γ y cc nL ret R Q k n w pc lv st := by
  obtain ⟨p, e, s, m, args, below, meth, c, A⟩ := Γ
  intro h H locs ls hP hD hS hl
  exact lv_goto h.1 h.2.1 hdg ht (kk h H locs ls hP hD hS hl)
theorem j_topi {x v : Int32} (hv : x = v) (kk : J D Γ y cc nL ret R Q k n w pc lv (.int v :: st)) : J D Γ y cc nL ret R Q k n w pc lv (.int x :: st) := by subst hv; exact kk
theorem j_topl {x v : Int64} (hv : x = v) (kk : J D Γ y cc nL ret R Q k n w pc lv (.long v :: st)) : J D Γ y cc nL ret R Q k n w pc lv (.long x :: st) := by subst hv; exact kk
theorem j_w {w2 : va_W} (hw : w = w2) (kk : J D Γ y cc nL ret R Q k n w2 pc lv st) : J D Γ y cc nL ret R Q k n w pc lv st := by subst hw; exact kk
theorem j_lv {lv2 : List (Nat × Value)} (ks : List Nat) (hk : lv_pick lv ks = lv2) (kk : J D Γ y cc nL ret R Q k n w pc lv2 st) : J D Γ y cc nL ret R Q k n w pc lv st := by
  obtain ⟨p, e, s, m, args, below, meth, c, A⟩ := Γ
  intro h H locs ls hP hD hS hl
  exact kk h H locs ls hP hD hS (lv_sub hl ks hk)
theorem j_tableOut {dflt lo hi : Int} {offs : Array Int} {len : Nat} {x : Int32} {tgt : Nat} (hdg : decode cc pc = .ok (.tableswitch dflt lo hi offs, len)) (hh : x.toInt < lo ∨ hi < x.toInt) (ht : (pc : Int) + dflt = (tgt : Int)) (kk : J D Γ y cc nL ret R Q k n w tgt lv st) : J D Γ y cc nL ret R Q k n w pc lv (.int x :: st) := by
  obtain ⟨p, e, s, m, args, below, meth, c, A⟩ := Γ
  intro h H locs ls hP hD hS hl
  exact lv_tableOut h.1 h.2.1 hdg hh ht (kk h H locs ls hP hD hS hl)
theorem j_tableIn {dflt lo hi : Int} {offs : Array Int} {len : Nat} {x : Int32} {off : Int} {tgt : Nat} (hdg : decode cc pc = .ok (.tableswitch dflt lo hi offs, len)) (h1 : ¬ x.toInt < lo) (h2 : ¬ hi < x.toInt) (ho : offs[(x.toInt - lo).toNat]? = some off) (ht : (pc : Int) + off = (tgt : Int)) (kk : J D Γ y cc nL ret R Q k n w tgt lv st) : J D Γ y cc nL ret R Q k n w pc lv (.int x :: st) := by
  obtain ⟨p, e, s, m, args, below, meth, c, A⟩ := Γ
  intro h H locs ls hP hD hS hl
  exact lv_tableIn h.1 h.2.1 hdg h1 h2 ho ht (kk h H locs ls hP hD hS hl)
theorem j_lookup {dflt : Int} {ps : Array (Int × Int)} {len : Nat} {x : Int32} {off : Int} {tgt : Nat} (hdg : decode cc pc = .ok (.lookupswitch dflt ps, len)) (hp : (ps.toList.zip (ps.toList.drop 1)).all (fun (a, next) => a.1 < next.1) = true) (ho : Op.lookupswitch.offset ps.toList dflt x.toInt = off) (ht : (pc : Int) + off = (tgt : Int)) (kk : J D Γ y cc nL ret R Q k n w tgt lv st) : J D Γ y cc nL ret R Q k n w pc lv (.int x :: st) := by
  obtain ⟨p, e, s, m, args, below, meth, c, A⟩ := Γ
  intro h H locs ls hP hD hS hl
  exact lv_lookup h.1 h.2.1 hdg hp ho ht (kk h H locs ls hP hD hS hl)
theorem j_iald {a N : Nat} {f : Nat → Int32} {i v : Int32} (hdg : decode cc pc = .ok (.iaload, 1)) (q j : Nat) (ha : w[q]? = some (a, .inl (dI D, N, .inl f))) (hi : i = nI j) (hj : j < N) (hN : N < 2 ^ 31) (hv : f j = v) (kk : J D Γ y cc nL ret R Q k n w (pc + 1) lv (.int v :: st)) : J D Γ y cc nL ret R Q k n w pc lv (.int i :: .ref a :: st) := by
  obtain ⟨p, e, s, m, args, below, meth, c, A⟩ := Γ
  intro h H locs ls hP hD hS hl
  subst hi
  refine va_iald h.1 h.2.1 h.2.2.2.2.2.2.2.1 hP q 0 ha rfl (vp_in_nI hj hN) hdg ?_
  rw [nI_clamp (Nat.lt_trans hj hN), hv]
  exact (kk h H locs ls hP hD hS hl)
theorem j_zald {a N : Nat} {f : Nat → Int32} {i v : Int32} (hdg : decode cc pc = .ok (.baload, 1)) (q j : Nat) (ha : w[q]? = some (a, .inl (dZ D, N, .inl f))) (hi : i = nI j) (hj : j < N) (hN : N < 2 ^ 31) (hv : f j = v) (kk : J D Γ y cc nL ret R Q k n w (pc + 1) lv (.int v :: st)) : J D Γ y cc nL ret R Q k n w pc lv (.int i :: .ref a :: st) := by
  obtain ⟨p, e, s, m, args, below, meth, c, A⟩ := Γ
  intro h H locs ls hP hD hS hl
  subst hi
  refine va_zald h.1 h.2.1 h.2.2.2.2.2.2.2.1 hP q 2 ha rfl (vp_in_nI hj hN) hdg ?_
  rw [nI_clamp (Nat.lt_trans hj hN), hv]
  exact (kk h H locs ls hP hD hS hl)
theorem j_aald {a N b : Nat} {f : Nat → Option Nat} {i : Int32} (hdg : decode cc pc = .ok (.aaload, 1)) (q j : Nat) (ha : w[q]? = some (a, .inl (dE D, N, .inr (.inr (.inr (.inr f)))))) (hi : i = nI j) (hj : j < N) (hN : N < 2 ^ 31) (hv : f j = some b) (kk : J D Γ y cc nL ret R Q k n w (pc + 1) lv (.ref b :: st)) : J D Γ y cc nL ret R Q k n w pc lv (.int i :: .ref a :: st) := by
  obtain ⟨p, e, s, m, args, below, meth, c, A⟩ := Γ
  intro h H locs ls hP hD hS hl
  subst hi
  refine va_aldq h.1 h.2.1 h.2.2.2.2.2.2.2.1 hP q 1 ha rfl (vp_in_nI hj hN) hdg ?_
  rw [nI_clamp (Nat.lt_trans hj hN), hv]
  exact (kk h H locs ls hP hD hS hl)
theorem j_iast {a N : Nat} {f : Nat → Int32} {i x : Int32} {w2 : va_W} (hdg : decode cc pc = .ok (.iastore, 1)) (q j : Nat) (ha : w[q]? = some (a, .inl (dI D, N, .inl f))) (hi : i = nI j) (hj : j < N) (hN : N < 2 ^ 31) (hw : w.set q (a, .inl (dI D, N, .inl (upd f j x))) = w2) (kk : J D Γ y cc nL ret R Q k n w2 (pc + 1) lv st) : J D Γ y cc nL ret R Q k n w pc lv (.int x :: .int i :: .ref a :: st) := by
  obtain ⟨p, e, s, m, args, below, meth, c, A⟩ := Γ
  intro h H locs ls hP hD hS hl
  subst hi
  refine va_iast h.1 h.2.1 h.2.2.2.2.2.2.2.1 hP hD hS q 0 ha rfl (vp_in_nI hj hN) hdg (fun H1 locs1 hP hD hS => ?_)
  rw [nI_clamp (Nat.lt_trans hj hN), hw] at hP hD
  exact kk h H1 locs1 ls hP hD hS hl
theorem j_zast {a N : Nat} {f : Nat → Int32} {i x : Int32} {w2 : va_W} (hdg : decode cc pc = .ok (.bastore, 1)) (q j : Nat) (ha : w[q]? = some (a, .inl (dZ D, N, .inl f))) (hi : i = nI j) (hj : j < N) (hN : N < 2 ^ 31) (hw : w.set q (a, .inl (dZ D, N, .inl (upd f j (vp_nar .boolean x)))) = w2) (kk : J D Γ y cc nL ret R Q k n w2 (pc + 1) lv st) : J D Γ y cc nL ret R Q k n w pc lv (.int x :: .int i :: .ref a :: st) := by
  obtain ⟨p, e, s, m, args, below, meth, c, A⟩ := Γ
  intro h H locs ls hP hD hS hl
  subst hi
  refine va_zast h.1 h.2.1 h.2.2.2.2.2.2.2.1 hP hD hS q 2 ha rfl (vp_in_nI hj hN) hdg (fun H1 locs1 hP hD hS => ?_)
  rw [nI_clamp (Nat.lt_trans hj hN), hw] at hP hD
  exact kk h H1 locs1 ls hP hD hS hl
theorem j_alen {a : Nat} {cA : ClassId} {x : vp_A} {ty : FieldType} {v : Int32} (hdg : decode cc pc = .ok (.arraylength, 1)) (q t0 : Nat) (ha : w[q]? = some (a, .inl (cA, x))) (ht : (dT D)[t0]? = some (cA, ty)) (hv : Int32.ofNat x.1 = v) (kk : J D Γ y cc nL ret R Q k n w (pc + 1) lv (.int v :: st)) : J D Γ y cc nL ret R Q k n w pc lv (.ref a :: st) := by
  obtain ⟨p, e, s, m, args, below, meth, c, A⟩ := Γ
  intro h H locs ls hP hD hS hl
  exact va_alen h.1 h.2.1 h.2.2.2.2.2.2.2.1 hP q t0 ha ht hv hdg (kk h H locs ls hP hD hS hl)
theorem va_P_cong {G : va_G} {cl : List vw_C} {ws : va_W} {H : Heap} (hP : va_P G cl ws H) (q : Nat) {a N : Nat} {cA : ClassId} {f g : Nat → Int32} (ha : ws[q]? = some (a, .inl (cA, N, .inl f))) (hfg : ∀ j, j < N → f j = g j) : va_P G cl (ws.set q (a, .inl (cA, N, .inl g))) H := by
  intro j p hp
  by_cases hj : q = j
  · subst hj
    rw [List.getElem?_set] at hp
    simp only [if_true] at hp
    split at hp
    · cases hp
      show H[a]? = some (vp_cell _ _)
      rw [← cell_cong hfg]
      exact hP q _ ha
    · cases hp
  · rw [List.getElem?_set_ne hj] at hp
    exact hP j p hp
theorem j_cong {a N : Nat} {cA : ClassId} {f g : Nat → Int32} {w2 : va_W} (q : Nat) (ha : w[q]? = some (a, .inl (cA, N, .inl f))) (hfg : ∀ j, j < N → f j = g j) (hw : w.set q (a, .inl (cA, N, .inl g)) = w2) (kk : J D Γ y cc nL ret R Q k n w2 pc lv st) : J D Γ y cc nL ret R Q k n w pc lv st := by
  obtain ⟨p, e, s, m, args, below, meth, c, A⟩ := Γ
  intro h H locs ls hP hD hS hl
  have hP2 := va_P_cong hP q ha hfg
  have hD2 := hD.set (e := .inl (cA, N, .inl g)) ha
  rw [hw] at hP2 hD2
  exact kk h H locs ls hP2 hD2 hS hl
end RU1
section RU2
variable {D : DX} {Γ : GX} {y : MethodName} {cc : ByteArray} {nL : Nat} {ret : Option FieldType} {R : Room} {Q : State → Prop} {k n : Nat} {w : va_W} {pc : Nat} {lv : List (Nat × Value)} {st : List Value}

variable {fin : Option Value → va_W → Prop}
theorem j_iret {x : Int32} (hdg : decode cc pc = .ok (.ireturn, 1))  (hk : R.cells = k ∧ R.slots = n) (hf : fin (some (.int x)) w) : J D Γ y cc nL (some .int) R (Qf D Γ R fin) k n w pc lv [.int x] := by
  obtain ⟨p, e, s, m, args, below, meth, c, A⟩ := Γ
  intro h H locs ls hP hD hS hl
  obtain ⟨rfl, rfl⟩ := hk
  exact W.iret h.1 h.2.1 h.2.2.1 (fun t ht hW => ⟨⟨_, w, rfl, hf, by rw [ht]; exact hP, hD⟩, hS.F ht⟩) hS.2.2 hdg h.2.2.2.2.2.2.1
theorem j_lret {x : Int64} (hdg : decode cc pc = .ok (.lreturn, 1))  (hk : R.cells = k ∧ R.slots = n) (hf : fin (some (.long x)) w) : J D Γ y cc nL (some .long) R (Qf D Γ R fin) k n w pc lv [.long x] := by
  obtain ⟨p, e, s, m, args, below, meth, c, A⟩ := Γ
  intro h H locs ls hP hD hS hl
  obtain ⟨rfl, rfl⟩ := hk
  exact W.lret h.1 h.2.1 h.2.2.1 (fun t ht hW => ⟨⟨_, w, rfl, hf, by rw [ht]; exact hP, hD⟩, hS.F ht⟩) hS.2.2 hdg h.2.2.2.2.2.2.1
theorem j_vret  (hdg : decode cc pc = .ok (.return_, 1))  (hk : R.cells = k ∧ R.slots = n) (hf : fin (none) w) : J D Γ y cc nL none R (Qf D Γ R fin) k n w pc lv [] := by
  obtain ⟨p, e, s, m, args, below, meth, c, A⟩ := Γ
  intro h H locs ls hP hD hS hl
  obtain ⟨rfl, rfl⟩ := hk
  exact W.vret h.1 h.2.1 h.2.2.1 (fun t ht hW => ⟨⟨_, w, rfl, hf, by rw [ht]; exact hP, hD⟩, hS.F ht⟩) hS.2.2 hdg h.2.2.2.2.2.2.1
theorem j_zret {x : Int32} (hdg : decode cc pc = .ok (.ireturn, 1)) (hn : narrow .boolean (.int x) = .int x) (hk : R.cells = k ∧ R.slots = n) (hf : fin (some (.int x)) w) : J D Γ y cc nL (some .boolean) R (Qf D Γ R fin) k n w pc lv [.int x] := by
  obtain ⟨p, e, s, m, args, below, meth, c, A⟩ := Γ
  intro h H locs ls hP hD hS hl
  obtain ⟨rfl, rfl⟩ := hk
  exact W.zret h.1 h.2.1 h.2.2.1 hn (fun t ht hW => ⟨⟨_, w, rfl, hf, by rw [ht]; exact hP, hD⟩, hS.F ht⟩) hS.2.2 hdg h.2.2.2.2.2.2.1
end RU2
section RU3
variable {D : DX} {Γ : GX} {y : MethodName} {cc : ByteArray} {nL : Nat} {ret : Option FieldType} {R : Room} {Q : State → Prop} {k n : Nat} {w : va_W} {pc : Nat} {lv : List (Nat × Value)} {st : List Value}

theorem g_X0_9 (hy : y.cls = RX0) {a : Nat} {fs : List Value} {v : Value} (hdg : decode cc pc = .ok (.getfield 9, 3)) (q : Nat) (he : w[q]? = some (a, .inr (0, fs))) (hv : fs[0]? = some v) (kk : J D Γ y cc nL ret R Q k n w (pc + 3) lv (v :: st)) : J D Γ y cc nL ret R Q k n w pc lv (.ref a :: st) := by
  obtain ⟨p, e, s, m, args, below, meth, c, A⟩ := Γ
  intro h H locs ls hP hD hS hl
  exact va_get (C := RX0) (T := TX0) (N := 7) h.1 h.2.1 h.2.2.2.2.2.1 m_us_X0 h.2.2.2.2.1 h.2.2.2.2.2.2.2.1 hP q he rfl 0 (by decide) (by rw [hy]; exact h.2.2.2.2.2.1 _ m_fl_X0_9) (fun _ h9 => h9) hv hdg (kk h H locs ls hP hD hS hl)
theorem p_X0_9 (hy : y.cls = RX0) (hin : y.name = "<init>") {a : Nat} {fs : List Value} {x : Nat} {w2 : va_W} (hdg : decode cc pc = .ok (.putfield 9, 3)) (q : Nat) (he : w[q]? = some (a, .inr (0, fs))) (hlen : 0 < fs.length) (hw : w.set q (a, .inr (0, fs.set 0 (.ref x))) = w2) (kk : J D Γ y cc nL ret R Q k n w2 (pc + 3) lv st) : J D Γ y cc nL ret R Q k n w pc lv (.ref x :: .ref a :: st) := by
  obtain ⟨p, e, s, m, args, below, meth, c, A⟩ := Γ
  intro h H locs ls hP hD hS hl
  refine va_putF (C := RX0) (T := TX0) (N := 7) (ty := (.array .int)) h.1 h.2.1 h.2.2.2.2.2.1 m_us_X0 tyX0 tyX0_ok nmX0 h.2.2.2.2.1 h.2.2.2.2.2.2.2.1 hP hD hS q he rfl 0 (by decide) (by rw [hy]; exact h.2.2.2.2.2.1 _ m_fl_X0_9) (fun _ h9 => h9) rfl (by rw [h.2.2.2.2.2.2.2.2.2.1]; exact hin) (by rw [hy]; rfl) (by decide +kernel) rfl rfl hlen hdg (fun H1 locs1 hP hD hS => ?_)
  rw [hw] at hP hD
  exact kk h H1 locs1 ls hP hD hS hl
theorem g_X0_15 (hy : y.cls = RX0) {a : Nat} {fs : List Value} {v : Value} (hdg : decode cc pc = .ok (.getfield 15, 3)) (q : Nat) (he : w[q]? = some (a, .inr (0, fs))) (hv : fs[1]? = some v) (kk : J D Γ y cc nL ret R Q k n w (pc + 3) lv (v :: st)) : J D Γ y cc nL ret R Q k n w pc lv (.ref a :: st) := by
  obtain ⟨p, e, s, m, args, below, meth, c, A⟩ := Γ
  intro h H locs ls hP hD hS hl
  exact va_get (C := RX0) (T := TX0) (N := 7) h.1 h.2.1 h.2.2.2.2.2.1 m_us_X0 h.2.2.2.2.1 h.2.2.2.2.2.2.2.1 hP q he rfl 1 (by decide) (by rw [hy]; exact h.2.2.2.2.2.1 _ m_fl_X0_15) (fun _ h9 => h9) hv hdg (kk h H locs ls hP hD hS hl)
theorem p_X0_15 (hy : y.cls = RX0) (hin : y.name = "<init>") {a : Nat} {fs : List Value} {x : Nat} {w2 : va_W} (hdg : decode cc pc = .ok (.putfield 15, 3)) (q : Nat) (he : w[q]? = some (a, .inr (0, fs))) (hlen : 1 < fs.length) (hw : w.set q (a, .inr (0, fs.set 1 (.ref x))) = w2) (kk : J D Γ y cc nL ret R Q k n w2 (pc + 3) lv st) : J D Γ y cc nL ret R Q k n w pc lv (.ref x :: .ref a :: st) := by
  obtain ⟨p, e, s, m, args, below, meth, c, A⟩ := Γ
  intro h H locs ls hP hD hS hl
  refine va_putF (C := RX0) (T := TX0) (N := 7) (ty := (.array .int)) h.1 h.2.1 h.2.2.2.2.2.1 m_us_X0 tyX0 tyX0_ok nmX0 h.2.2.2.2.1 h.2.2.2.2.2.2.2.1 hP hD hS q he rfl 1 (by decide) (by rw [hy]; exact h.2.2.2.2.2.1 _ m_fl_X0_15) (fun _ h9 => h9) rfl (by rw [h.2.2.2.2.2.2.2.2.2.1]; exact hin) (by rw [hy]; rfl) (by decide +kernel) rfl rfl hlen hdg (fun H1 locs1 hP hD hS => ?_)
  rw [hw] at hP hD
  exact kk h H1 locs1 ls hP hD hS hl
theorem g_X0_18 (hy : y.cls = RX0) {a : Nat} {fs : List Value} {v : Value} (hdg : decode cc pc = .ok (.getfield 18, 3)) (q : Nat) (he : w[q]? = some (a, .inr (0, fs))) (hv : fs[2]? = some v) (kk : J D Γ y cc nL ret R Q k n w (pc + 3) lv (v :: st)) : J D Γ y cc nL ret R Q k n w pc lv (.ref a :: st) := by
  obtain ⟨p, e, s, m, args, below, meth, c, A⟩ := Γ
  intro h H locs ls hP hD hS hl
  exact va_get (C := RX0) (T := TX0) (N := 7) h.1 h.2.1 h.2.2.2.2.2.1 m_us_X0 h.2.2.2.2.1 h.2.2.2.2.2.2.2.1 hP q he rfl 2 (by decide) (by rw [hy]; exact h.2.2.2.2.2.1 _ m_fl_X0_18) (fun _ h9 => h9) hv hdg (kk h H locs ls hP hD hS hl)
theorem p_X0_18 (hy : y.cls = RX0) (hin : y.name = "<init>") {a : Nat} {fs : List Value} {x : Nat} {w2 : va_W} (hdg : decode cc pc = .ok (.putfield 18, 3)) (q : Nat) (he : w[q]? = some (a, .inr (0, fs))) (hlen : 2 < fs.length) (hw : w.set q (a, .inr (0, fs.set 2 (.ref x))) = w2) (kk : J D Γ y cc nL ret R Q k n w2 (pc + 3) lv st) : J D Γ y cc nL ret R Q k n w pc lv (.ref x :: .ref a :: st) := by
  obtain ⟨p, e, s, m, args, below, meth, c, A⟩ := Γ
  intro h H locs ls hP hD hS hl
  refine va_putF (C := RX0) (T := TX0) (N := 7) (ty := (.array .int)) h.1 h.2.1 h.2.2.2.2.2.1 m_us_X0 tyX0 tyX0_ok nmX0 h.2.2.2.2.1 h.2.2.2.2.2.2.2.1 hP hD hS q he rfl 2 (by decide) (by rw [hy]; exact h.2.2.2.2.2.1 _ m_fl_X0_18) (fun _ h9 => h9) rfl (by rw [h.2.2.2.2.2.2.2.2.2.1]; exact hin) (by rw [hy]; rfl) (by decide +kernel) rfl rfl hlen hdg (fun H1 locs1 hP hD hS => ?_)
  rw [hw] at hP hD
  exact kk h H1 locs1 ls hP hD hS hl
theorem g_X0_21 (hy : y.cls = RX0) {a : Nat} {fs : List Value} {v : Value} (hdg : decode cc pc = .ok (.getfield 21, 3)) (q : Nat) (he : w[q]? = some (a, .inr (0, fs))) (hv : fs[3]? = some v) (kk : J D Γ y cc nL ret R Q k n w (pc + 3) lv (v :: st)) : J D Γ y cc nL ret R Q k n w pc lv (.ref a :: st) := by
  obtain ⟨p, e, s, m, args, below, meth, c, A⟩ := Γ
  intro h H locs ls hP hD hS hl
  exact va_get (C := RX0) (T := TX0) (N := 7) h.1 h.2.1 h.2.2.2.2.2.1 m_us_X0 h.2.2.2.2.1 h.2.2.2.2.2.2.2.1 hP q he rfl 3 (by decide) (by rw [hy]; exact h.2.2.2.2.2.1 _ m_fl_X0_21) (fun _ h9 => h9) hv hdg (kk h H locs ls hP hD hS hl)
theorem p_X0_21 (hy : y.cls = RX0) (hin : y.name = "<init>") {a : Nat} {fs : List Value} {x : Nat} {w2 : va_W} (hdg : decode cc pc = .ok (.putfield 21, 3)) (q : Nat) (he : w[q]? = some (a, .inr (0, fs))) (hlen : 3 < fs.length) (hw : w.set q (a, .inr (0, fs.set 3 (.ref x))) = w2) (kk : J D Γ y cc nL ret R Q k n w2 (pc + 3) lv st) : J D Γ y cc nL ret R Q k n w pc lv (.ref x :: .ref a :: st) := by
  obtain ⟨p, e, s, m, args, below, meth, c, A⟩ := Γ
  intro h H locs ls hP hD hS hl
  refine va_putF (C := RX0) (T := TX0) (N := 7) (ty := (.array .int)) h.1 h.2.1 h.2.2.2.2.2.1 m_us_X0 tyX0 tyX0_ok nmX0 h.2.2.2.2.1 h.2.2.2.2.2.2.2.1 hP hD hS q he rfl 3 (by decide) (by rw [hy]; exact h.2.2.2.2.2.1 _ m_fl_X0_21) (fun _ h9 => h9) rfl (by rw [h.2.2.2.2.2.2.2.2.2.1]; exact hin) (by rw [hy]; rfl) (by decide +kernel) rfl rfl hlen hdg (fun H1 locs1 hP hD hS => ?_)
  rw [hw] at hP hD
  exact kk h H1 locs1 ls hP hD hS hl
theorem g_X0_24 (hy : y.cls = RX0) {a : Nat} {fs : List Value} {v : Value} (hdg : decode cc pc = .ok (.getfield 24, 3)) (q : Nat) (he : w[q]? = some (a, .inr (0, fs))) (hv : fs[4]? = some v) (kk : J D Γ y cc nL ret R Q k n w (pc + 3) lv (v :: st)) : J D Γ y cc nL ret R Q k n w pc lv (.ref a :: st) := by
  obtain ⟨p, e, s, m, args, below, meth, c, A⟩ := Γ
  intro h H locs ls hP hD hS hl
  exact va_get (C := RX0) (T := TX0) (N := 7) h.1 h.2.1 h.2.2.2.2.2.1 m_us_X0 h.2.2.2.2.1 h.2.2.2.2.2.2.2.1 hP q he rfl 4 (by decide) (by rw [hy]; exact h.2.2.2.2.2.1 _ m_fl_X0_24) (fun _ h9 => h9) hv hdg (kk h H locs ls hP hD hS hl)
theorem p_X0_24 (hy : y.cls = RX0) {a : Nat} {fs : List Value} {x : Int32} {w2 : va_W} (hdg : decode cc pc = .ok (.putfield 24, 3)) (q : Nat) (he : w[q]? = some (a, .inr (0, fs))) (hlen : 4 < fs.length) (hw : w.set q (a, .inr (0, fs.set 4 (.int x))) = w2) (kk : J D Γ y cc nL ret R Q k n w2 (pc + 3) lv st) : J D Γ y cc nL ret R Q k n w pc lv (.int x :: .ref a :: st) := by
  obtain ⟨p, e, s, m, args, below, meth, c, A⟩ := Γ
  intro h H locs ls hP hD hS hl
  refine va_put (C := RX0) (T := TX0) (N := 7) (ty := .int) h.1 h.2.1 h.2.2.2.2.2.1 m_us_X0 tyX0 tyX0_ok nmX0 h.2.2.2.2.1 h.2.2.2.2.2.2.2.1 hP hD hS q he rfl 4 (by decide) (by rw [hy]; exact h.2.2.2.2.2.1 _ m_fl_X0_24) (fun _ h9 => h9) rfl (by decide +kernel) rfl rfl hlen hdg (fun H1 locs1 hP hD hS => ?_)
  rw [hw] at hP hD
  exact kk h H1 locs1 ls hP hD hS hl
theorem g_X0_28 (hy : y.cls = RX0) {a : Nat} {fs : List Value} {v : Value} (hdg : decode cc pc = .ok (.getfield 28, 3)) (q : Nat) (he : w[q]? = some (a, .inr (0, fs))) (hv : fs[5]? = some v) (kk : J D Γ y cc nL ret R Q k n w (pc + 3) lv (v :: st)) : J D Γ y cc nL ret R Q k n w pc lv (.ref a :: st) := by
  obtain ⟨p, e, s, m, args, below, meth, c, A⟩ := Γ
  intro h H locs ls hP hD hS hl
  exact va_get (C := RX0) (T := TX0) (N := 7) h.1 h.2.1 h.2.2.2.2.2.1 m_us_X0 h.2.2.2.2.1 h.2.2.2.2.2.2.2.1 hP q he rfl 5 (by decide) (by rw [hy]; exact h.2.2.2.2.2.1 _ m_fl_X0_28) (fun _ h9 => h9) hv hdg (kk h H locs ls hP hD hS hl)
theorem p_X0_28 (hy : y.cls = RX0) {a : Nat} {fs : List Value} {x : Int32} {w2 : va_W} (hdg : decode cc pc = .ok (.putfield 28, 3)) (q : Nat) (he : w[q]? = some (a, .inr (0, fs))) (hlen : 5 < fs.length) (hw : w.set q (a, .inr (0, fs.set 5 (.int x))) = w2) (kk : J D Γ y cc nL ret R Q k n w2 (pc + 3) lv st) : J D Γ y cc nL ret R Q k n w pc lv (.int x :: .ref a :: st) := by
  obtain ⟨p, e, s, m, args, below, meth, c, A⟩ := Γ
  intro h H locs ls hP hD hS hl
  refine va_put (C := RX0) (T := TX0) (N := 7) (ty := .int) h.1 h.2.1 h.2.2.2.2.2.1 m_us_X0 tyX0 tyX0_ok nmX0 h.2.2.2.2.1 h.2.2.2.2.2.2.2.1 hP hD hS q he rfl 5 (by decide) (by rw [hy]; exact h.2.2.2.2.2.1 _ m_fl_X0_28) (fun _ h9 => h9) rfl (by decide +kernel) rfl rfl hlen hdg (fun H1 locs1 hP hD hS => ?_)
  rw [hw] at hP hD
  exact kk h H1 locs1 ls hP hD hS hl
theorem g_X0_31 (hy : y.cls = RX0) {a : Nat} {fs : List Value} {v : Value} (hdg : decode cc pc = .ok (.getfield 31, 3)) (q : Nat) (he : w[q]? = some (a, .inr (0, fs))) (hv : fs[6]? = some v) (kk : J D Γ y cc nL ret R Q k n w (pc + 3) lv (v :: st)) : J D Γ y cc nL ret R Q k n w pc lv (.ref a :: st) := by
  obtain ⟨p, e, s, m, args, below, meth, c, A⟩ := Γ
  intro h H locs ls hP hD hS hl
  exact va_get (C := RX0) (T := TX0) (N := 7) h.1 h.2.1 h.2.2.2.2.2.1 m_us_X0 h.2.2.2.2.1 h.2.2.2.2.2.2.2.1 hP q he rfl 6 (by decide) (by rw [hy]; exact h.2.2.2.2.2.1 _ m_fl_X0_31) (fun _ h9 => h9) hv hdg (kk h H locs ls hP hD hS hl)
theorem p_X0_31 (hy : y.cls = RX0) {a : Nat} {fs : List Value} {x : Int32} {w2 : va_W} (hdg : decode cc pc = .ok (.putfield 31, 3)) (q : Nat) (he : w[q]? = some (a, .inr (0, fs))) (hlen : 6 < fs.length) (hw : w.set q (a, .inr (0, fs.set 6 (.int x))) = w2) (kk : J D Γ y cc nL ret R Q k n w2 (pc + 3) lv st) : J D Γ y cc nL ret R Q k n w pc lv (.int x :: .ref a :: st) := by
  obtain ⟨p, e, s, m, args, below, meth, c, A⟩ := Γ
  intro h H locs ls hP hD hS hl
  refine va_put (C := RX0) (T := TX0) (N := 7) (ty := .int) h.1 h.2.1 h.2.2.2.2.2.1 m_us_X0 tyX0 tyX0_ok nmX0 h.2.2.2.2.1 h.2.2.2.2.2.2.2.1 hP hD hS q he rfl 6 (by decide) (by rw [hy]; exact h.2.2.2.2.2.1 _ m_fl_X0_31) (fun _ h9 => h9) rfl (by decide +kernel) rfl rfl hlen hdg (fun H1 locs1 hP hD hS => ?_)
  rw [hw] at hP hD
  exact kk h H1 locs1 ls hP hD hS hl
theorem g_X1_11 (hy : y.cls = RX1) {a : Nat} {fs : List Value} {v : Value} (hdg : decode cc pc = .ok (.getfield 11, 3)) (q : Nat) (he : w[q]? = some (a, .inr (1, fs))) (hv : fs[0]? = some v) (kk : J D Γ y cc nL ret R Q k n w (pc + 3) lv (v :: st)) : J D Γ y cc nL ret R Q k n w pc lv (.ref a :: st) := by
  obtain ⟨p, e, s, m, args, below, meth, c, A⟩ := Γ
  intro h H locs ls hP hD hS hl
  exact va_get (C := RX1) (T := TX1) (N := 3) h.1 h.2.1 h.2.2.2.2.2.1 m_us_X1 h.2.2.2.2.1 h.2.2.2.2.2.2.2.1 hP q he rfl 0 (by decide) (by rw [hy]; exact h.2.2.2.2.2.1 _ m_fl_X1_11) (fun _ h9 => h9) hv hdg (kk h H locs ls hP hD hS hl)
theorem p_X1_11 (hy : y.cls = RX1) (hin : y.name = "<init>") {a : Nat} {fs : List Value} {x : Nat} {w2 : va_W} (hdg : decode cc pc = .ok (.putfield 11, 3)) (q : Nat) (he : w[q]? = some (a, .inr (1, fs))) (hlen : 0 < fs.length) (hw : w.set q (a, .inr (1, fs.set 0 (.ref x))) = w2) (kk : J D Γ y cc nL ret R Q k n w2 (pc + 3) lv st) : J D Γ y cc nL ret R Q k n w pc lv (.ref x :: .ref a :: st) := by
  obtain ⟨p, e, s, m, args, below, meth, c, A⟩ := Γ
  intro h H locs ls hP hD hS hl
  refine va_putF (C := RX1) (T := TX1) (N := 3) (ty := (.array (.object "TransferRings$Engine"))) h.1 h.2.1 h.2.2.2.2.2.1 m_us_X1 tyX1 tyX1_ok nmX1 h.2.2.2.2.1 h.2.2.2.2.2.2.2.1 hP hD hS q he rfl 0 (by decide) (by rw [hy]; exact h.2.2.2.2.2.1 _ m_fl_X1_11) (fun _ h9 => h9) rfl (by rw [h.2.2.2.2.2.2.2.2.2.1]; exact hin) (by rw [hy]; rfl) (by decide +kernel) rfl rfl hlen hdg (fun H1 locs1 hP hD hS => ?_)
  rw [hw] at hP hD
  exact kk h H1 locs1 ls hP hD hS hl
theorem g_X1_16 (hy : y.cls = RX1) {a : Nat} {fs : List Value} {v : Value} (hdg : decode cc pc = .ok (.getfield 16, 3)) (q : Nat) (he : w[q]? = some (a, .inr (1, fs))) (hv : fs[1]? = some v) (kk : J D Γ y cc nL ret R Q k n w (pc + 3) lv (v :: st)) : J D Γ y cc nL ret R Q k n w pc lv (.ref a :: st) := by
  obtain ⟨p, e, s, m, args, below, meth, c, A⟩ := Γ
  intro h H locs ls hP hD hS hl
  exact va_get (C := RX1) (T := TX1) (N := 3) h.1 h.2.1 h.2.2.2.2.2.1 m_us_X1 h.2.2.2.2.1 h.2.2.2.2.2.2.2.1 hP q he rfl 1 (by decide) (by rw [hy]; exact h.2.2.2.2.2.1 _ m_fl_X1_16) (fun _ h9 => h9) hv hdg (kk h H locs ls hP hD hS hl)
theorem p_X1_16 (hy : y.cls = RX1) {a : Nat} {fs : List Value} {x : Int32} {w2 : va_W} (hdg : decode cc pc = .ok (.putfield 16, 3)) (q : Nat) (he : w[q]? = some (a, .inr (1, fs))) (hlen : 1 < fs.length) (hw : w.set q (a, .inr (1, fs.set 1 (.int x))) = w2) (kk : J D Γ y cc nL ret R Q k n w2 (pc + 3) lv st) : J D Γ y cc nL ret R Q k n w pc lv (.int x :: .ref a :: st) := by
  obtain ⟨p, e, s, m, args, below, meth, c, A⟩ := Γ
  intro h H locs ls hP hD hS hl
  refine va_put (C := RX1) (T := TX1) (N := 3) (ty := .int) h.1 h.2.1 h.2.2.2.2.2.1 m_us_X1 tyX1 tyX1_ok nmX1 h.2.2.2.2.1 h.2.2.2.2.2.2.2.1 hP hD hS q he rfl 1 (by decide) (by rw [hy]; exact h.2.2.2.2.2.1 _ m_fl_X1_16) (fun _ h9 => h9) rfl (by decide +kernel) rfl rfl hlen hdg (fun H1 locs1 hP hD hS => ?_)
  rw [hw] at hP hD
  exact kk h H1 locs1 ls hP hD hS hl
theorem g_X1_20 (hy : y.cls = RX1) {a : Nat} {fs : List Value} {v : Value} (hdg : decode cc pc = .ok (.getfield 20, 3)) (q : Nat) (he : w[q]? = some (a, .inr (1, fs))) (hv : fs[2]? = some v) (kk : J D Γ y cc nL ret R Q k n w (pc + 3) lv (v :: st)) : J D Γ y cc nL ret R Q k n w pc lv (.ref a :: st) := by
  obtain ⟨p, e, s, m, args, below, meth, c, A⟩ := Γ
  intro h H locs ls hP hD hS hl
  exact va_get (C := RX1) (T := TX1) (N := 3) h.1 h.2.1 h.2.2.2.2.2.1 m_us_X1 h.2.2.2.2.1 h.2.2.2.2.2.2.2.1 hP q he rfl 2 (by decide) (by rw [hy]; exact h.2.2.2.2.2.1 _ m_fl_X1_20) (fun _ h9 => h9) hv hdg (kk h H locs ls hP hD hS hl)
theorem p_X1_20 (hy : y.cls = RX1) {a : Nat} {fs : List Value} {x : Int32} {w2 : va_W} (hdg : decode cc pc = .ok (.putfield 20, 3)) (q : Nat) (he : w[q]? = some (a, .inr (1, fs))) (hlen : 2 < fs.length) (hw : w.set q (a, .inr (1, fs.set 2 (.int x))) = w2) (kk : J D Γ y cc nL ret R Q k n w2 (pc + 3) lv st) : J D Γ y cc nL ret R Q k n w pc lv (.int x :: .ref a :: st) := by
  obtain ⟨p, e, s, m, args, below, meth, c, A⟩ := Γ
  intro h H locs ls hP hD hS hl
  refine va_put (C := RX1) (T := TX1) (N := 3) (ty := .int) h.1 h.2.1 h.2.2.2.2.2.1 m_us_X1 tyX1 tyX1_ok nmX1 h.2.2.2.2.1 h.2.2.2.2.2.2.2.1 hP hD hS q he rfl 2 (by decide) (by rw [hy]; exact h.2.2.2.2.2.1 _ m_fl_X1_20) (fun _ h9 => h9) rfl (by decide +kernel) rfl rfl hlen hdg (fun H1 locs1 hP hD hS => ?_)
  rw [hw] at hP hD
  exact kk h H1 locs1 ls hP hD hS hl
theorem g_X2_9 (hy : y.cls = RX2) {a : Nat} {fs : List Value} {v : Value} (hdg : decode cc pc = .ok (.getfield 9, 3)) (q : Nat) (he : w[q]? = some (a, .inr (2, fs))) (hv : fs[0]? = some v) (kk : J D Γ y cc nL ret R Q k n w (pc + 3) lv (v :: st)) : J D Γ y cc nL ret R Q k n w pc lv (.ref a :: st) := by
  obtain ⟨p, e, s, m, args, below, meth, c, A⟩ := Γ
  intro h H locs ls hP hD hS hl
  exact va_get (C := RX2) (T := TX2) (N := 3) h.1 h.2.1 h.2.2.2.2.2.1 m_us_X2 h.2.2.2.2.1 h.2.2.2.2.2.2.2.1 hP q he rfl 0 (by decide) (by rw [hy]; exact h.2.2.2.2.2.1 _ m_fl_X2_9) (fun _ h9 => h9) hv hdg (kk h H locs ls hP hD hS hl)
theorem p_X2_9 (hy : y.cls = RX2) (hin : y.name = "<init>") {a : Nat} {fs : List Value} {x : Nat} {w2 : va_W} (hdg : decode cc pc = .ok (.putfield 9, 3)) (q : Nat) (he : w[q]? = some (a, .inr (2, fs))) (hlen : 0 < fs.length) (hw : w.set q (a, .inr (2, fs.set 0 (.ref x))) = w2) (kk : J D Γ y cc nL ret R Q k n w2 (pc + 3) lv st) : J D Γ y cc nL ret R Q k n w pc lv (.ref x :: .ref a :: st) := by
  obtain ⟨p, e, s, m, args, below, meth, c, A⟩ := Γ
  intro h H locs ls hP hD hS hl
  refine va_putF (C := RX2) (T := TX2) (N := 3) (ty := (.array .int)) h.1 h.2.1 h.2.2.2.2.2.1 m_us_X2 tyX2 tyX2_ok nmX2 h.2.2.2.2.1 h.2.2.2.2.2.2.2.1 hP hD hS q he rfl 0 (by decide) (by rw [hy]; exact h.2.2.2.2.2.1 _ m_fl_X2_9) (fun _ h9 => h9) rfl (by rw [h.2.2.2.2.2.2.2.2.2.1]; exact hin) (by rw [hy]; rfl) (by decide +kernel) rfl rfl hlen hdg (fun H1 locs1 hP hD hS => ?_)
  rw [hw] at hP hD
  exact kk h H1 locs1 ls hP hD hS hl
theorem g_X2_13 (hy : y.cls = RX2) {a : Nat} {fs : List Value} {v : Value} (hdg : decode cc pc = .ok (.getfield 13, 3)) (q : Nat) (he : w[q]? = some (a, .inr (2, fs))) (hv : fs[1]? = some v) (kk : J D Γ y cc nL ret R Q k n w (pc + 3) lv (v :: st)) : J D Γ y cc nL ret R Q k n w pc lv (.ref a :: st) := by
  obtain ⟨p, e, s, m, args, below, meth, c, A⟩ := Γ
  intro h H locs ls hP hD hS hl
  exact va_get (C := RX2) (T := TX2) (N := 3) h.1 h.2.1 h.2.2.2.2.2.1 m_us_X2 h.2.2.2.2.1 h.2.2.2.2.2.2.2.1 hP q he rfl 1 (by decide) (by rw [hy]; exact h.2.2.2.2.2.1 _ m_fl_X2_13) (fun _ h9 => h9) hv hdg (kk h H locs ls hP hD hS hl)
theorem p_X2_13 (hy : y.cls = RX2) (hin : y.name = "<init>") {a : Nat} {fs : List Value} {x : Nat} {w2 : va_W} (hdg : decode cc pc = .ok (.putfield 13, 3)) (q : Nat) (he : w[q]? = some (a, .inr (2, fs))) (hlen : 1 < fs.length) (hw : w.set q (a, .inr (2, fs.set 1 (.ref x))) = w2) (kk : J D Γ y cc nL ret R Q k n w2 (pc + 3) lv st) : J D Γ y cc nL ret R Q k n w pc lv (.ref x :: .ref a :: st) := by
  obtain ⟨p, e, s, m, args, below, meth, c, A⟩ := Γ
  intro h H locs ls hP hD hS hl
  refine va_putF (C := RX2) (T := TX2) (N := 3) (ty := (.array .int)) h.1 h.2.1 h.2.2.2.2.2.1 m_us_X2 tyX2 tyX2_ok nmX2 h.2.2.2.2.1 h.2.2.2.2.2.2.2.1 hP hD hS q he rfl 1 (by decide) (by rw [hy]; exact h.2.2.2.2.2.1 _ m_fl_X2_13) (fun _ h9 => h9) rfl (by rw [h.2.2.2.2.2.2.2.2.2.1]; exact hin) (by rw [hy]; rfl) (by decide +kernel) rfl rfl hlen hdg (fun H1 locs1 hP hD hS => ?_)
  rw [hw] at hP hD
  exact kk h H1 locs1 ls hP hD hS hl
theorem g_X2_16 (hy : y.cls = RX2) {a : Nat} {fs : List Value} {v : Value} (hdg : decode cc pc = .ok (.getfield 16, 3)) (q : Nat) (he : w[q]? = some (a, .inr (2, fs))) (hv : fs[2]? = some v) (kk : J D Γ y cc nL ret R Q k n w (pc + 3) lv (v :: st)) : J D Γ y cc nL ret R Q k n w pc lv (.ref a :: st) := by
  obtain ⟨p, e, s, m, args, below, meth, c, A⟩ := Γ
  intro h H locs ls hP hD hS hl
  exact va_get (C := RX2) (T := TX2) (N := 3) h.1 h.2.1 h.2.2.2.2.2.1 m_us_X2 h.2.2.2.2.1 h.2.2.2.2.2.2.2.1 hP q he rfl 2 (by decide) (by rw [hy]; exact h.2.2.2.2.2.1 _ m_fl_X2_16) (fun _ h9 => h9) hv hdg (kk h H locs ls hP hD hS hl)
theorem p_X2_16 (hy : y.cls = RX2) {a : Nat} {fs : List Value} {x : Int32} {w2 : va_W} (hdg : decode cc pc = .ok (.putfield 16, 3)) (q : Nat) (he : w[q]? = some (a, .inr (2, fs))) (hlen : 2 < fs.length) (hw : w.set q (a, .inr (2, fs.set 2 (.int x))) = w2) (kk : J D Γ y cc nL ret R Q k n w2 (pc + 3) lv st) : J D Γ y cc nL ret R Q k n w pc lv (.int x :: .ref a :: st) := by
  obtain ⟨p, e, s, m, args, below, meth, c, A⟩ := Γ
  intro h H locs ls hP hD hS hl
  refine va_put (C := RX2) (T := TX2) (N := 3) (ty := .int) h.1 h.2.1 h.2.2.2.2.2.1 m_us_X2 tyX2 tyX2_ok nmX2 h.2.2.2.2.1 h.2.2.2.2.2.2.2.1 hP hD hS q he rfl 2 (by decide) (by rw [hy]; exact h.2.2.2.2.2.1 _ m_fl_X2_16) (fun _ h9 => h9) rfl (by decide +kernel) rfl rfl hlen hdg (fun H1 locs1 hP hD hS => ?_)
  rw [hw] at hP hD
  exact kk h H1 locs1 ls hP hD hS hl
theorem g_X3_9 (hy : y.cls = RX3) {a : Nat} {fs : List Value} {v : Value} (hdg : decode cc pc = .ok (.getfield 9, 3)) (q : Nat) (he : w[q]? = some (a, .inr (3, fs))) (hv : fs[0]? = some v) (kk : J D Γ y cc nL ret R Q k n w (pc + 3) lv (v :: st)) : J D Γ y cc nL ret R Q k n w pc lv (.ref a :: st) := by
  obtain ⟨p, e, s, m, args, below, meth, c, A⟩ := Γ
  intro h H locs ls hP hD hS hl
  exact va_get (C := RX3) (T := TX3) (N := 6) h.1 h.2.1 h.2.2.2.2.2.1 m_us_X3 h.2.2.2.2.1 h.2.2.2.2.2.2.2.1 hP q he rfl 0 (by decide) (by rw [hy]; exact h.2.2.2.2.2.1 _ m_fl_X3_9) (fun _ h9 => h9) hv hdg (kk h H locs ls hP hD hS hl)
theorem p_X3_9 (hy : y.cls = RX3) (hin : y.name = "<init>") {a : Nat} {fs : List Value} {x : Nat} {w2 : va_W} (hdg : decode cc pc = .ok (.putfield 9, 3)) (q : Nat) (he : w[q]? = some (a, .inr (3, fs))) (hlen : 0 < fs.length) (hw : w.set q (a, .inr (3, fs.set 0 (.ref x))) = w2) (kk : J D Γ y cc nL ret R Q k n w2 (pc + 3) lv st) : J D Γ y cc nL ret R Q k n w pc lv (.ref x :: .ref a :: st) := by
  obtain ⟨p, e, s, m, args, below, meth, c, A⟩ := Γ
  intro h H locs ls hP hD hS hl
  refine va_putF (C := RX3) (T := TX3) (N := 6) (ty := (.array .int)) h.1 h.2.1 h.2.2.2.2.2.1 m_us_X3 tyX3 tyX3_ok nmX3 h.2.2.2.2.1 h.2.2.2.2.2.2.2.1 hP hD hS q he rfl 0 (by decide) (by rw [hy]; exact h.2.2.2.2.2.1 _ m_fl_X3_9) (fun _ h9 => h9) rfl (by rw [h.2.2.2.2.2.2.2.2.2.1]; exact hin) (by rw [hy]; rfl) (by decide +kernel) rfl rfl hlen hdg (fun H1 locs1 hP hD hS => ?_)
  rw [hw] at hP hD
  exact kk h H1 locs1 ls hP hD hS hl
theorem g_X3_13 (hy : y.cls = RX3) {a : Nat} {fs : List Value} {v : Value} (hdg : decode cc pc = .ok (.getfield 13, 3)) (q : Nat) (he : w[q]? = some (a, .inr (3, fs))) (hv : fs[1]? = some v) (kk : J D Γ y cc nL ret R Q k n w (pc + 3) lv (v :: st)) : J D Γ y cc nL ret R Q k n w pc lv (.ref a :: st) := by
  obtain ⟨p, e, s, m, args, below, meth, c, A⟩ := Γ
  intro h H locs ls hP hD hS hl
  exact va_get (C := RX3) (T := TX3) (N := 6) h.1 h.2.1 h.2.2.2.2.2.1 m_us_X3 h.2.2.2.2.1 h.2.2.2.2.2.2.2.1 hP q he rfl 1 (by decide) (by rw [hy]; exact h.2.2.2.2.2.1 _ m_fl_X3_13) (fun _ h9 => h9) hv hdg (kk h H locs ls hP hD hS hl)
theorem p_X3_13 (hy : y.cls = RX3) (hin : y.name = "<init>") {a : Nat} {fs : List Value} {x : Nat} {w2 : va_W} (hdg : decode cc pc = .ok (.putfield 13, 3)) (q : Nat) (he : w[q]? = some (a, .inr (3, fs))) (hlen : 1 < fs.length) (hw : w.set q (a, .inr (3, fs.set 1 (.ref x))) = w2) (kk : J D Γ y cc nL ret R Q k n w2 (pc + 3) lv st) : J D Γ y cc nL ret R Q k n w pc lv (.ref x :: .ref a :: st) := by
  obtain ⟨p, e, s, m, args, below, meth, c, A⟩ := Γ
  intro h H locs ls hP hD hS hl
  refine va_putF (C := RX3) (T := TX3) (N := 6) (ty := (.array .int)) h.1 h.2.1 h.2.2.2.2.2.1 m_us_X3 tyX3 tyX3_ok nmX3 h.2.2.2.2.1 h.2.2.2.2.2.2.2.1 hP hD hS q he rfl 1 (by decide) (by rw [hy]; exact h.2.2.2.2.2.1 _ m_fl_X3_13) (fun _ h9 => h9) rfl (by rw [h.2.2.2.2.2.2.2.2.2.1]; exact hin) (by rw [hy]; rfl) (by decide +kernel) rfl rfl hlen hdg (fun H1 locs1 hP hD hS => ?_)
  rw [hw] at hP hD
  exact kk h H1 locs1 ls hP hD hS hl
theorem g_X3_16 (hy : y.cls = RX3) {a : Nat} {fs : List Value} {v : Value} (hdg : decode cc pc = .ok (.getfield 16, 3)) (q : Nat) (he : w[q]? = some (a, .inr (3, fs))) (hv : fs[2]? = some v) (kk : J D Γ y cc nL ret R Q k n w (pc + 3) lv (v :: st)) : J D Γ y cc nL ret R Q k n w pc lv (.ref a :: st) := by
  obtain ⟨p, e, s, m, args, below, meth, c, A⟩ := Γ
  intro h H locs ls hP hD hS hl
  exact va_get (C := RX3) (T := TX3) (N := 6) h.1 h.2.1 h.2.2.2.2.2.1 m_us_X3 h.2.2.2.2.1 h.2.2.2.2.2.2.2.1 hP q he rfl 2 (by decide) (by rw [hy]; exact h.2.2.2.2.2.1 _ m_fl_X3_16) (fun _ h9 => h9) hv hdg (kk h H locs ls hP hD hS hl)
theorem p_X3_16 (hy : y.cls = RX3) (hin : y.name = "<init>") {a : Nat} {fs : List Value} {x : Nat} {w2 : va_W} (hdg : decode cc pc = .ok (.putfield 16, 3)) (q : Nat) (he : w[q]? = some (a, .inr (3, fs))) (hlen : 2 < fs.length) (hw : w.set q (a, .inr (3, fs.set 2 (.ref x))) = w2) (kk : J D Γ y cc nL ret R Q k n w2 (pc + 3) lv st) : J D Γ y cc nL ret R Q k n w pc lv (.ref x :: .ref a :: st) := by
  obtain ⟨p, e, s, m, args, below, meth, c, A⟩ := Γ
  intro h H locs ls hP hD hS hl
  refine va_putF (C := RX3) (T := TX3) (N := 6) (ty := (.array .int)) h.1 h.2.1 h.2.2.2.2.2.1 m_us_X3 tyX3 tyX3_ok nmX3 h.2.2.2.2.1 h.2.2.2.2.2.2.2.1 hP hD hS q he rfl 2 (by decide) (by rw [hy]; exact h.2.2.2.2.2.1 _ m_fl_X3_16) (fun _ h9 => h9) rfl (by rw [h.2.2.2.2.2.2.2.2.2.1]; exact hin) (by rw [hy]; rfl) (by decide +kernel) rfl rfl hlen hdg (fun H1 locs1 hP hD hS => ?_)
  rw [hw] at hP hD
  exact kk h H1 locs1 ls hP hD hS hl
theorem g_X3_19 (hy : y.cls = RX3) {a : Nat} {fs : List Value} {v : Value} (hdg : decode cc pc = .ok (.getfield 19, 3)) (q : Nat) (he : w[q]? = some (a, .inr (3, fs))) (hv : fs[3]? = some v) (kk : J D Γ y cc nL ret R Q k n w (pc + 3) lv (v :: st)) : J D Γ y cc nL ret R Q k n w pc lv (.ref a :: st) := by
  obtain ⟨p, e, s, m, args, below, meth, c, A⟩ := Γ
  intro h H locs ls hP hD hS hl
  exact va_get (C := RX3) (T := TX3) (N := 6) h.1 h.2.1 h.2.2.2.2.2.1 m_us_X3 h.2.2.2.2.1 h.2.2.2.2.2.2.2.1 hP q he rfl 3 (by decide) (by rw [hy]; exact h.2.2.2.2.2.1 _ m_fl_X3_19) (fun _ h9 => h9) hv hdg (kk h H locs ls hP hD hS hl)
theorem p_X3_19 (hy : y.cls = RX3) {a : Nat} {fs : List Value} {x : Int32} {w2 : va_W} (hdg : decode cc pc = .ok (.putfield 19, 3)) (q : Nat) (he : w[q]? = some (a, .inr (3, fs))) (hlen : 3 < fs.length) (hw : w.set q (a, .inr (3, fs.set 3 (.int x))) = w2) (kk : J D Γ y cc nL ret R Q k n w2 (pc + 3) lv st) : J D Γ y cc nL ret R Q k n w pc lv (.int x :: .ref a :: st) := by
  obtain ⟨p, e, s, m, args, below, meth, c, A⟩ := Γ
  intro h H locs ls hP hD hS hl
  refine va_put (C := RX3) (T := TX3) (N := 6) (ty := .int) h.1 h.2.1 h.2.2.2.2.2.1 m_us_X3 tyX3 tyX3_ok nmX3 h.2.2.2.2.1 h.2.2.2.2.2.2.2.1 hP hD hS q he rfl 3 (by decide) (by rw [hy]; exact h.2.2.2.2.2.1 _ m_fl_X3_19) (fun _ h9 => h9) rfl (by decide +kernel) rfl rfl hlen hdg (fun H1 locs1 hP hD hS => ?_)
  rw [hw] at hP hD
  exact kk h H1 locs1 ls hP hD hS hl
theorem g_X3_23 (hy : y.cls = RX3) {a : Nat} {fs : List Value} {v : Value} (hdg : decode cc pc = .ok (.getfield 23, 3)) (q : Nat) (he : w[q]? = some (a, .inr (3, fs))) (hv : fs[4]? = some v) (kk : J D Γ y cc nL ret R Q k n w (pc + 3) lv (v :: st)) : J D Γ y cc nL ret R Q k n w pc lv (.ref a :: st) := by
  obtain ⟨p, e, s, m, args, below, meth, c, A⟩ := Γ
  intro h H locs ls hP hD hS hl
  exact va_get (C := RX3) (T := TX3) (N := 6) h.1 h.2.1 h.2.2.2.2.2.1 m_us_X3 h.2.2.2.2.1 h.2.2.2.2.2.2.2.1 hP q he rfl 4 (by decide) (by rw [hy]; exact h.2.2.2.2.2.1 _ m_fl_X3_23) (fun _ h9 => h9) hv hdg (kk h H locs ls hP hD hS hl)
theorem p_X3_23 (hy : y.cls = RX3) {a : Nat} {fs : List Value} {x : Int32} {w2 : va_W} (hdg : decode cc pc = .ok (.putfield 23, 3)) (q : Nat) (he : w[q]? = some (a, .inr (3, fs))) (hlen : 4 < fs.length) (hw : w.set q (a, .inr (3, fs.set 4 (.int x))) = w2) (kk : J D Γ y cc nL ret R Q k n w2 (pc + 3) lv st) : J D Γ y cc nL ret R Q k n w pc lv (.int x :: .ref a :: st) := by
  obtain ⟨p, e, s, m, args, below, meth, c, A⟩ := Γ
  intro h H locs ls hP hD hS hl
  refine va_put (C := RX3) (T := TX3) (N := 6) (ty := .int) h.1 h.2.1 h.2.2.2.2.2.1 m_us_X3 tyX3 tyX3_ok nmX3 h.2.2.2.2.1 h.2.2.2.2.2.2.2.1 hP hD hS q he rfl 4 (by decide) (by rw [hy]; exact h.2.2.2.2.2.1 _ m_fl_X3_23) (fun _ h9 => h9) rfl (by decide +kernel) rfl rfl hlen hdg (fun H1 locs1 hP hD hS => ?_)
  rw [hw] at hP hD
  exact kk h H1 locs1 ls hP hD hS hl
theorem g_X3_26 (hy : y.cls = RX3) {a : Nat} {fs : List Value} {v : Value} (hdg : decode cc pc = .ok (.getfield 26, 3)) (q : Nat) (he : w[q]? = some (a, .inr (3, fs))) (hv : fs[5]? = some v) (kk : J D Γ y cc nL ret R Q k n w (pc + 3) lv (v :: st)) : J D Γ y cc nL ret R Q k n w pc lv (.ref a :: st) := by
  obtain ⟨p, e, s, m, args, below, meth, c, A⟩ := Γ
  intro h H locs ls hP hD hS hl
  exact va_get (C := RX3) (T := TX3) (N := 6) h.1 h.2.1 h.2.2.2.2.2.1 m_us_X3 h.2.2.2.2.1 h.2.2.2.2.2.2.2.1 hP q he rfl 5 (by decide) (by rw [hy]; exact h.2.2.2.2.2.1 _ m_fl_X3_26) (fun _ h9 => h9) hv hdg (kk h H locs ls hP hD hS hl)
theorem p_X3_26 (hy : y.cls = RX3) {a : Nat} {fs : List Value} {x : Int32} {w2 : va_W} (hdg : decode cc pc = .ok (.putfield 26, 3)) (q : Nat) (he : w[q]? = some (a, .inr (3, fs))) (hlen : 5 < fs.length) (hw : w.set q (a, .inr (3, fs.set 5 (.int x))) = w2) (kk : J D Γ y cc nL ret R Q k n w2 (pc + 3) lv st) : J D Γ y cc nL ret R Q k n w pc lv (.int x :: .ref a :: st) := by
  obtain ⟨p, e, s, m, args, below, meth, c, A⟩ := Γ
  intro h H locs ls hP hD hS hl
  refine va_put (C := RX3) (T := TX3) (N := 6) (ty := .int) h.1 h.2.1 h.2.2.2.2.2.1 m_us_X3 tyX3 tyX3_ok nmX3 h.2.2.2.2.1 h.2.2.2.2.2.2.2.1 hP hD hS q he rfl 5 (by decide) (by rw [hy]; exact h.2.2.2.2.2.1 _ m_fl_X3_26) (fun _ h9 => h9) rfl (by decide +kernel) rfl rfl hlen hdg (fun H1 locs1 hP hD hS => ?_)
  rw [hw] at hP hD
  exact kk h H1 locs1 ls hP hD hS hl
theorem g_X4_10 (hy : y.cls = RX4) {a : Nat} {fs : List Value} {v : Value} (hdg : decode cc pc = .ok (.getfield 10, 3)) (q : Nat) (he : w[q]? = some (a, .inr (4, fs))) (hv : fs[0]? = some v) (kk : J D Γ y cc nL ret R Q k n w (pc + 3) lv (v :: st)) : J D Γ y cc nL ret R Q k n w pc lv (.ref a :: st) := by
  obtain ⟨p, e, s, m, args, below, meth, c, A⟩ := Γ
  intro h H locs ls hP hD hS hl
  exact va_get (C := RX4) (T := TX4) (N := 7) h.1 h.2.1 h.2.2.2.2.2.1 m_us_X4 h.2.2.2.2.1 h.2.2.2.2.2.2.2.1 hP q he rfl 0 (by decide) (by rw [hy]; exact h.2.2.2.2.2.1 _ m_fl_X4_10) (fun _ h9 => h9) hv hdg (kk h H locs ls hP hD hS hl)
theorem p_X4_10 (hy : y.cls = RX4) (hin : y.name = "<init>") {a : Nat} {fs : List Value} {x : Nat} {w2 : va_W} (hdg : decode cc pc = .ok (.putfield 10, 3)) (q : Nat) (he : w[q]? = some (a, .inr (4, fs))) (hlen : 0 < fs.length) (hw : w.set q (a, .inr (4, fs.set 0 (.ref x))) = w2) (kk : J D Γ y cc nL ret R Q k n w2 (pc + 3) lv st) : J D Γ y cc nL ret R Q k n w pc lv (.ref x :: .ref a :: st) := by
  obtain ⟨p, e, s, m, args, below, meth, c, A⟩ := Γ
  intro h H locs ls hP hD hS hl
  refine va_putF (C := RX4) (T := TX4) (N := 7) (ty := (.object "TransferRings$Text")) h.1 h.2.1 h.2.2.2.2.2.1 m_us_X4 tyX4 tyX4_ok nmX4 h.2.2.2.2.1 h.2.2.2.2.2.2.2.1 hP hD hS q he rfl 0 (by decide) (by rw [hy]; exact h.2.2.2.2.2.1 _ m_fl_X4_10) (fun _ h9 => h9) rfl (by rw [h.2.2.2.2.2.2.2.2.2.1]; exact hin) (by rw [hy]; rfl) (by decide +kernel) rfl rfl hlen hdg (fun H1 locs1 hP hD hS => ?_)
  rw [hw] at hP hD
  exact kk h H1 locs1 ls hP hD hS hl
theorem g_X4_19 (hy : y.cls = RX4) {a : Nat} {fs : List Value} {v : Value} (hdg : decode cc pc = .ok (.getfield 19, 3)) (q : Nat) (he : w[q]? = some (a, .inr (4, fs))) (hv : fs[1]? = some v) (kk : J D Γ y cc nL ret R Q k n w (pc + 3) lv (v :: st)) : J D Γ y cc nL ret R Q k n w pc lv (.ref a :: st) := by
  obtain ⟨p, e, s, m, args, below, meth, c, A⟩ := Γ
  intro h H locs ls hP hD hS hl
  exact va_get (C := RX4) (T := TX4) (N := 7) h.1 h.2.1 h.2.2.2.2.2.1 m_us_X4 h.2.2.2.2.1 h.2.2.2.2.2.2.2.1 hP q he rfl 1 (by decide) (by rw [hy]; exact h.2.2.2.2.2.1 _ m_fl_X4_19) (fun _ h9 => h9) hv hdg (kk h H locs ls hP hD hS hl)
theorem p_X4_19 (hy : y.cls = RX4) (hin : y.name = "<init>") {a : Nat} {fs : List Value} {x : Nat} {w2 : va_W} (hdg : decode cc pc = .ok (.putfield 19, 3)) (q : Nat) (he : w[q]? = some (a, .inr (4, fs))) (hlen : 1 < fs.length) (hw : w.set q (a, .inr (4, fs.set 1 (.ref x))) = w2) (kk : J D Γ y cc nL ret R Q k n w2 (pc + 3) lv st) : J D Γ y cc nL ret R Q k n w pc lv (.ref x :: .ref a :: st) := by
  obtain ⟨p, e, s, m, args, below, meth, c, A⟩ := Γ
  intro h H locs ls hP hD hS hl
  refine va_putF (C := RX4) (T := TX4) (N := 7) (ty := (.object "TransferRings$Engine")) h.1 h.2.1 h.2.2.2.2.2.1 m_us_X4 tyX4 tyX4_ok nmX4 h.2.2.2.2.1 h.2.2.2.2.2.2.2.1 hP hD hS q he rfl 1 (by decide) (by rw [hy]; exact h.2.2.2.2.2.1 _ m_fl_X4_19) (fun _ h9 => h9) rfl (by rw [h.2.2.2.2.2.2.2.2.2.1]; exact hin) (by rw [hy]; rfl) (by decide +kernel) rfl rfl hlen hdg (fun H1 locs1 hP hD hS => ?_)
  rw [hw] at hP hD
  exact kk h H1 locs1 ls hP hD hS hl
theorem g_X4_23 (hy : y.cls = RX4) {a : Nat} {fs : List Value} {v : Value} (hdg : decode cc pc = .ok (.getfield 23, 3)) (q : Nat) (he : w[q]? = some (a, .inr (4, fs))) (hv : fs[2]? = some v) (kk : J D Γ y cc nL ret R Q k n w (pc + 3) lv (v :: st)) : J D Γ y cc nL ret R Q k n w pc lv (.ref a :: st) := by
  obtain ⟨p, e, s, m, args, below, meth, c, A⟩ := Γ
  intro h H locs ls hP hD hS hl
  exact va_get (C := RX4) (T := TX4) (N := 7) h.1 h.2.1 h.2.2.2.2.2.1 m_us_X4 h.2.2.2.2.1 h.2.2.2.2.2.2.2.1 hP q he rfl 2 (by decide) (by rw [hy]; exact h.2.2.2.2.2.1 _ m_fl_X4_23) (fun _ h9 => h9) hv hdg (kk h H locs ls hP hD hS hl)
theorem p_X4_23 (hy : y.cls = RX4) (hin : y.name = "<init>") {a : Nat} {fs : List Value} {x : Nat} {w2 : va_W} (hdg : decode cc pc = .ok (.putfield 23, 3)) (q : Nat) (he : w[q]? = some (a, .inr (4, fs))) (hlen : 2 < fs.length) (hw : w.set q (a, .inr (4, fs.set 2 (.ref x))) = w2) (kk : J D Γ y cc nL ret R Q k n w2 (pc + 3) lv st) : J D Γ y cc nL ret R Q k n w pc lv (.ref x :: .ref a :: st) := by
  obtain ⟨p, e, s, m, args, below, meth, c, A⟩ := Γ
  intro h H locs ls hP hD hS hl
  refine va_putF (C := RX4) (T := TX4) (N := 7) (ty := (.object "TransferRings$Engine")) h.1 h.2.1 h.2.2.2.2.2.1 m_us_X4 tyX4 tyX4_ok nmX4 h.2.2.2.2.1 h.2.2.2.2.2.2.2.1 hP hD hS q he rfl 2 (by decide) (by rw [hy]; exact h.2.2.2.2.2.1 _ m_fl_X4_23) (fun _ h9 => h9) rfl (by rw [h.2.2.2.2.2.2.2.2.2.1]; exact hin) (by rw [hy]; rfl) (by decide +kernel) rfl rfl hlen hdg (fun H1 locs1 hP hD hS => ?_)
  rw [hw] at hP hD
  exact kk h H1 locs1 ls hP hD hS hl
theorem g_X4_29 (hy : y.cls = RX4) {a : Nat} {fs : List Value} {v : Value} (hdg : decode cc pc = .ok (.getfield 29, 3)) (q : Nat) (he : w[q]? = some (a, .inr (4, fs))) (hv : fs[3]? = some v) (kk : J D Γ y cc nL ret R Q k n w (pc + 3) lv (v :: st)) : J D Γ y cc nL ret R Q k n w pc lv (.ref a :: st) := by
  obtain ⟨p, e, s, m, args, below, meth, c, A⟩ := Γ
  intro h H locs ls hP hD hS hl
  exact va_get (C := RX4) (T := TX4) (N := 7) h.1 h.2.1 h.2.2.2.2.2.1 m_us_X4 h.2.2.2.2.1 h.2.2.2.2.2.2.2.1 hP q he rfl 3 (by decide) (by rw [hy]; exact h.2.2.2.2.2.1 _ m_fl_X4_29) (fun _ h9 => h9) hv hdg (kk h H locs ls hP hD hS hl)
theorem p_X4_29 (hy : y.cls = RX4) (hin : y.name = "<init>") {a : Nat} {fs : List Value} {x : Nat} {w2 : va_W} (hdg : decode cc pc = .ok (.putfield 29, 3)) (q : Nat) (he : w[q]? = some (a, .inr (4, fs))) (hlen : 3 < fs.length) (hw : w.set q (a, .inr (4, fs.set 3 (.ref x))) = w2) (kk : J D Γ y cc nL ret R Q k n w2 (pc + 3) lv st) : J D Γ y cc nL ret R Q k n w pc lv (.ref x :: .ref a :: st) := by
  obtain ⟨p, e, s, m, args, below, meth, c, A⟩ := Γ
  intro h H locs ls hP hD hS hl
  refine va_putF (C := RX4) (T := TX4) (N := 7) (ty := (.object "TransferRings$History")) h.1 h.2.1 h.2.2.2.2.2.1 m_us_X4 tyX4 tyX4_ok nmX4 h.2.2.2.2.1 h.2.2.2.2.2.2.2.1 hP hD hS q he rfl 3 (by decide) (by rw [hy]; exact h.2.2.2.2.2.1 _ m_fl_X4_29) (fun _ h9 => h9) rfl (by rw [h.2.2.2.2.2.2.2.2.2.1]; exact hin) (by rw [hy]; rfl) (by decide +kernel) rfl rfl hlen hdg (fun H1 locs1 hP hD hS => ?_)
  rw [hw] at hP hD
  exact kk h H1 locs1 ls hP hD hS hl
theorem g_X4_36 (hy : y.cls = RX4) {a : Nat} {fs : List Value} {v : Value} (hdg : decode cc pc = .ok (.getfield 36, 3)) (q : Nat) (he : w[q]? = some (a, .inr (4, fs))) (hv : fs[4]? = some v) (kk : J D Γ y cc nL ret R Q k n w (pc + 3) lv (v :: st)) : J D Γ y cc nL ret R Q k n w pc lv (.ref a :: st) := by
  obtain ⟨p, e, s, m, args, below, meth, c, A⟩ := Γ
  intro h H locs ls hP hD hS hl
  exact va_get (C := RX4) (T := TX4) (N := 7) h.1 h.2.1 h.2.2.2.2.2.1 m_us_X4 h.2.2.2.2.1 h.2.2.2.2.2.2.2.1 hP q he rfl 4 (by decide) (by rw [hy]; exact h.2.2.2.2.2.1 _ m_fl_X4_36) (fun _ h9 => h9) hv hdg (kk h H locs ls hP hD hS hl)
theorem p_X4_36 (hy : y.cls = RX4) (hin : y.name = "<init>") {a : Nat} {fs : List Value} {x : Nat} {w2 : va_W} (hdg : decode cc pc = .ok (.putfield 36, 3)) (q : Nat) (he : w[q]? = some (a, .inr (4, fs))) (hlen : 4 < fs.length) (hw : w.set q (a, .inr (4, fs.set 4 (.ref x))) = w2) (kk : J D Γ y cc nL ret R Q k n w2 (pc + 3) lv st) : J D Γ y cc nL ret R Q k n w pc lv (.ref x :: .ref a :: st) := by
  obtain ⟨p, e, s, m, args, below, meth, c, A⟩ := Γ
  intro h H locs ls hP hD hS hl
  refine va_putF (C := RX4) (T := TX4) (N := 7) (ty := (.object "TransferRings$Sightings")) h.1 h.2.1 h.2.2.2.2.2.1 m_us_X4 tyX4 tyX4_ok nmX4 h.2.2.2.2.1 h.2.2.2.2.2.2.2.1 hP hD hS q he rfl 4 (by decide) (by rw [hy]; exact h.2.2.2.2.2.1 _ m_fl_X4_36) (fun _ h9 => h9) rfl (by rw [h.2.2.2.2.2.2.2.2.2.1]; exact hin) (by rw [hy]; rfl) (by decide +kernel) rfl rfl hlen hdg (fun H1 locs1 hP hD hS => ?_)
  rw [hw] at hP hD
  exact kk h H1 locs1 ls hP hD hS hl
theorem g_X4_40 (hy : y.cls = RX4) {a : Nat} {fs : List Value} {v : Value} (hdg : decode cc pc = .ok (.getfield 40, 3)) (q : Nat) (he : w[q]? = some (a, .inr (4, fs))) (hv : fs[5]? = some v) (kk : J D Γ y cc nL ret R Q k n w (pc + 3) lv (v :: st)) : J D Γ y cc nL ret R Q k n w pc lv (.ref a :: st) := by
  obtain ⟨p, e, s, m, args, below, meth, c, A⟩ := Γ
  intro h H locs ls hP hD hS hl
  exact va_get (C := RX4) (T := TX4) (N := 7) h.1 h.2.1 h.2.2.2.2.2.1 m_us_X4 h.2.2.2.2.1 h.2.2.2.2.2.2.2.1 hP q he rfl 5 (by decide) (by rw [hy]; exact h.2.2.2.2.2.1 _ m_fl_X4_40) (fun _ h9 => h9) hv hdg (kk h H locs ls hP hD hS hl)
theorem p_X4_40 (hy : y.cls = RX4) (hin : y.name = "<init>") {a : Nat} {fs : List Value} {x : Nat} {w2 : va_W} (hdg : decode cc pc = .ok (.putfield 40, 3)) (q : Nat) (he : w[q]? = some (a, .inr (4, fs))) (hlen : 5 < fs.length) (hw : w.set q (a, .inr (4, fs.set 5 (.ref x))) = w2) (kk : J D Γ y cc nL ret R Q k n w2 (pc + 3) lv st) : J D Γ y cc nL ret R Q k n w pc lv (.ref x :: .ref a :: st) := by
  obtain ⟨p, e, s, m, args, below, meth, c, A⟩ := Γ
  intro h H locs ls hP hD hS hl
  refine va_putF (C := RX4) (T := TX4) (N := 7) (ty := (.array (.object "TransferRings$Engine"))) h.1 h.2.1 h.2.2.2.2.2.1 m_us_X4 tyX4 tyX4_ok nmX4 h.2.2.2.2.1 h.2.2.2.2.2.2.2.1 hP hD hS q he rfl 5 (by decide) (by rw [hy]; exact h.2.2.2.2.2.1 _ m_fl_X4_40) (fun _ h9 => h9) rfl (by rw [h.2.2.2.2.2.2.2.2.2.1]; exact hin) (by rw [hy]; rfl) (by decide +kernel) rfl rfl hlen hdg (fun H1 locs1 hP hD hS => ?_)
  rw [hw] at hP hD
  exact kk h H1 locs1 ls hP hD hS hl
theorem g_X4_44 (hy : y.cls = RX4) {a : Nat} {fs : List Value} {v : Value} (hdg : decode cc pc = .ok (.getfield 44, 3)) (q : Nat) (he : w[q]? = some (a, .inr (4, fs))) (hv : fs[6]? = some v) (kk : J D Γ y cc nL ret R Q k n w (pc + 3) lv (v :: st)) : J D Γ y cc nL ret R Q k n w pc lv (.ref a :: st) := by
  obtain ⟨p, e, s, m, args, below, meth, c, A⟩ := Γ
  intro h H locs ls hP hD hS hl
  exact va_get (C := RX4) (T := TX4) (N := 7) h.1 h.2.1 h.2.2.2.2.2.1 m_us_X4 h.2.2.2.2.1 h.2.2.2.2.2.2.2.1 hP q he rfl 6 (by decide) (by rw [hy]; exact h.2.2.2.2.2.1 _ m_fl_X4_44) (fun _ h9 => h9) hv hdg (kk h H locs ls hP hD hS hl)
theorem p_X4_44 (hy : y.cls = RX4) (hin : y.name = "<init>") {a : Nat} {fs : List Value} {x : Nat} {w2 : va_W} (hdg : decode cc pc = .ok (.putfield 44, 3)) (q : Nat) (he : w[q]? = some (a, .inr (4, fs))) (hlen : 6 < fs.length) (hw : w.set q (a, .inr (4, fs.set 6 (.ref x))) = w2) (kk : J D Γ y cc nL ret R Q k n w2 (pc + 3) lv st) : J D Γ y cc nL ret R Q k n w pc lv (.ref x :: .ref a :: st) := by
  obtain ⟨p, e, s, m, args, below, meth, c, A⟩ := Γ
  intro h H locs ls hP hD hS hl
  refine va_putF (C := RX4) (T := TX4) (N := 7) (ty := (.array .boolean)) h.1 h.2.1 h.2.2.2.2.2.1 m_us_X4 tyX4 tyX4_ok nmX4 h.2.2.2.2.1 h.2.2.2.2.2.2.2.1 hP hD hS q he rfl 6 (by decide) (by rw [hy]; exact h.2.2.2.2.2.1 _ m_fl_X4_44) (fun _ h9 => h9) rfl (by rw [h.2.2.2.2.2.2.2.2.2.1]; exact hin) (by rw [hy]; rfl) (by decide +kernel) rfl rfl hlen hdg (fun H1 locs1 hP hD hS => ?_)
  rw [hw] at hP hD
  exact kk h H1 locs1 ls hP hD hS hl
theorem g_X4_56 (hy : y.cls = RX4) {a : Nat} {fs : List Value} {v : Value} (hdg : decode cc pc = .ok (.getfield 56, 3)) (q : Nat) (he : w[q]? = some (a, .inr (3, fs))) (hv : fs[4]? = some v) (kk : J D Γ y cc nL ret R Q k n w (pc + 3) lv (v :: st)) : J D Γ y cc nL ret R Q k n w pc lv (.ref a :: st) := by
  obtain ⟨p, e, s, m, args, below, meth, c, A⟩ := Γ
  intro h H locs ls hP hD hS hl
  exact va_get (C := RX3) (T := TX3) (N := 6) h.1 h.2.1 h.2.2.2.2.2.1 m_us_X3 h.2.2.2.2.1 h.2.2.2.2.2.2.2.1 hP q he rfl 4 (by decide) (by rw [hy]; exact h.2.2.2.2.2.1 _ m_fl_X4_56) (fun _ h9 => h9) hv hdg (kk h H locs ls hP hD hS hl)
theorem p_X4_56 (hy : y.cls = RX4) {a : Nat} {fs : List Value} {x : Int32} {w2 : va_W} (hdg : decode cc pc = .ok (.putfield 56, 3)) (q : Nat) (he : w[q]? = some (a, .inr (3, fs))) (hlen : 4 < fs.length) (hw : w.set q (a, .inr (3, fs.set 4 (.int x))) = w2) (kk : J D Γ y cc nL ret R Q k n w2 (pc + 3) lv st) : J D Γ y cc nL ret R Q k n w pc lv (.int x :: .ref a :: st) := by
  obtain ⟨p, e, s, m, args, below, meth, c, A⟩ := Γ
  intro h H locs ls hP hD hS hl
  refine va_put (C := RX3) (T := TX3) (N := 6) (ty := .int) h.1 h.2.1 h.2.2.2.2.2.1 m_us_X3 tyX3 tyX3_ok nmX3 h.2.2.2.2.1 h.2.2.2.2.2.2.2.1 hP hD hS q he rfl 4 (by decide) (by rw [hy]; exact h.2.2.2.2.2.1 _ m_fl_X4_56) (fun _ h9 => h9) rfl (by decide +kernel) rfl rfl hlen hdg (fun H1 locs1 hP hD hS => ?_)
  rw [hw] at hP hD
  exact kk h H1 locs1 ls hP hD hS hl
theorem g_X4_71 (hy : y.cls = RX4) {a : Nat} {fs : List Value} {v : Value} (hdg : decode cc pc = .ok (.getfield 71, 3)) (q : Nat) (he : w[q]? = some (a, .inr (3, fs))) (hv : fs[5]? = some v) (kk : J D Γ y cc nL ret R Q k n w (pc + 3) lv (v :: st)) : J D Γ y cc nL ret R Q k n w pc lv (.ref a :: st) := by
  obtain ⟨p, e, s, m, args, below, meth, c, A⟩ := Γ
  intro h H locs ls hP hD hS hl
  exact va_get (C := RX3) (T := TX3) (N := 6) h.1 h.2.1 h.2.2.2.2.2.1 m_us_X3 h.2.2.2.2.1 h.2.2.2.2.2.2.2.1 hP q he rfl 5 (by decide) (by rw [hy]; exact h.2.2.2.2.2.1 _ m_fl_X4_71) (fun _ h9 => h9) hv hdg (kk h H locs ls hP hD hS hl)
theorem p_X4_71 (hy : y.cls = RX4) {a : Nat} {fs : List Value} {x : Int32} {w2 : va_W} (hdg : decode cc pc = .ok (.putfield 71, 3)) (q : Nat) (he : w[q]? = some (a, .inr (3, fs))) (hlen : 5 < fs.length) (hw : w.set q (a, .inr (3, fs.set 5 (.int x))) = w2) (kk : J D Γ y cc nL ret R Q k n w2 (pc + 3) lv st) : J D Γ y cc nL ret R Q k n w pc lv (.int x :: .ref a :: st) := by
  obtain ⟨p, e, s, m, args, below, meth, c, A⟩ := Γ
  intro h H locs ls hP hD hS hl
  refine va_put (C := RX3) (T := TX3) (N := 6) (ty := .int) h.1 h.2.1 h.2.2.2.2.2.1 m_us_X3 tyX3 tyX3_ok nmX3 h.2.2.2.2.1 h.2.2.2.2.2.2.2.1 hP hD hS q he rfl 5 (by decide) (by rw [hy]; exact h.2.2.2.2.2.1 _ m_fl_X4_71) (fun _ h9 => h9) rfl (by decide +kernel) rfl rfl hlen hdg (fun H1 locs1 hP hD hS => ?_)
  rw [hw] at hP hD
  exact kk h H1 locs1 ls hP hD hS hl
theorem g_X4_107 (hy : y.cls = RX4) {a : Nat} {fs : List Value} {v : Value} (hdg : decode cc pc = .ok (.getfield 107, 3)) (q : Nat) (he : w[q]? = some (a, .inr (1, fs))) (hv : fs[2]? = some v) (kk : J D Γ y cc nL ret R Q k n w (pc + 3) lv (v :: st)) : J D Γ y cc nL ret R Q k n w pc lv (.ref a :: st) := by
  obtain ⟨p, e, s, m, args, below, meth, c, A⟩ := Γ
  intro h H locs ls hP hD hS hl
  exact va_get (C := RX1) (T := TX1) (N := 3) h.1 h.2.1 h.2.2.2.2.2.1 m_us_X1 h.2.2.2.2.1 h.2.2.2.2.2.2.2.1 hP q he rfl 2 (by decide) (by rw [hy]; exact h.2.2.2.2.2.1 _ m_fl_X4_107) (fun _ h9 => h9) hv hdg (kk h H locs ls hP hD hS hl)
theorem p_X4_107 (hy : y.cls = RX4) {a : Nat} {fs : List Value} {x : Int32} {w2 : va_W} (hdg : decode cc pc = .ok (.putfield 107, 3)) (q : Nat) (he : w[q]? = some (a, .inr (1, fs))) (hlen : 2 < fs.length) (hw : w.set q (a, .inr (1, fs.set 2 (.int x))) = w2) (kk : J D Γ y cc nL ret R Q k n w2 (pc + 3) lv st) : J D Γ y cc nL ret R Q k n w pc lv (.int x :: .ref a :: st) := by
  obtain ⟨p, e, s, m, args, below, meth, c, A⟩ := Γ
  intro h H locs ls hP hD hS hl
  refine va_put (C := RX1) (T := TX1) (N := 3) (ty := .int) h.1 h.2.1 h.2.2.2.2.2.1 m_us_X1 tyX1 tyX1_ok nmX1 h.2.2.2.2.1 h.2.2.2.2.2.2.2.1 hP hD hS q he rfl 2 (by decide) (by rw [hy]; exact h.2.2.2.2.2.1 _ m_fl_X4_107) (fun _ h9 => h9) rfl (by decide +kernel) rfl rfl hlen hdg (fun H1 locs1 hP hD hS => ?_)
  rw [hw] at hP hD
  exact kk h H1 locs1 ls hP hD hS hl
theorem g_X4_110 (hy : y.cls = RX4) {a : Nat} {fs : List Value} {v : Value} (hdg : decode cc pc = .ok (.getfield 110, 3)) (q : Nat) (he : w[q]? = some (a, .inr (0, fs))) (hv : fs[0]? = some v) (kk : J D Γ y cc nL ret R Q k n w (pc + 3) lv (v :: st)) : J D Γ y cc nL ret R Q k n w pc lv (.ref a :: st) := by
  obtain ⟨p, e, s, m, args, below, meth, c, A⟩ := Γ
  intro h H locs ls hP hD hS hl
  exact va_get (C := RX0) (T := TX0) (N := 7) h.1 h.2.1 h.2.2.2.2.2.1 m_us_X0 h.2.2.2.2.1 h.2.2.2.2.2.2.2.1 hP q he rfl 0 (by decide) (by rw [hy]; exact h.2.2.2.2.2.1 _ m_fl_X4_110) (fun _ h9 => h9) hv hdg (kk h H locs ls hP hD hS hl)
theorem g_X4_140 (hy : y.cls = RX4) {a : Nat} {fs : List Value} {v : Value} (hdg : decode cc pc = .ok (.getfield 140, 3)) (q : Nat) (he : w[q]? = some (a, .inr (0, fs))) (hv : fs[4]? = some v) (kk : J D Γ y cc nL ret R Q k n w (pc + 3) lv (v :: st)) : J D Γ y cc nL ret R Q k n w pc lv (.ref a :: st) := by
  obtain ⟨p, e, s, m, args, below, meth, c, A⟩ := Γ
  intro h H locs ls hP hD hS hl
  exact va_get (C := RX0) (T := TX0) (N := 7) h.1 h.2.1 h.2.2.2.2.2.1 m_us_X0 h.2.2.2.2.1 h.2.2.2.2.2.2.2.1 hP q he rfl 4 (by decide) (by rw [hy]; exact h.2.2.2.2.2.1 _ m_fl_X4_140) (fun _ h9 => h9) hv hdg (kk h H locs ls hP hD hS hl)
theorem p_X4_140 (hy : y.cls = RX4) {a : Nat} {fs : List Value} {x : Int32} {w2 : va_W} (hdg : decode cc pc = .ok (.putfield 140, 3)) (q : Nat) (he : w[q]? = some (a, .inr (0, fs))) (hlen : 4 < fs.length) (hw : w.set q (a, .inr (0, fs.set 4 (.int x))) = w2) (kk : J D Γ y cc nL ret R Q k n w2 (pc + 3) lv st) : J D Γ y cc nL ret R Q k n w pc lv (.int x :: .ref a :: st) := by
  obtain ⟨p, e, s, m, args, below, meth, c, A⟩ := Γ
  intro h H locs ls hP hD hS hl
  refine va_put (C := RX0) (T := TX0) (N := 7) (ty := .int) h.1 h.2.1 h.2.2.2.2.2.1 m_us_X0 tyX0 tyX0_ok nmX0 h.2.2.2.2.1 h.2.2.2.2.2.2.2.1 hP hD hS q he rfl 4 (by decide) (by rw [hy]; exact h.2.2.2.2.2.1 _ m_fl_X4_140) (fun _ h9 => h9) rfl (by decide +kernel) rfl rfl hlen hdg (fun H1 locs1 hP hD hS => ?_)
  rw [hw] at hP hD
  exact kk h H1 locs1 ls hP hD hS hl
theorem g_X4_143 (hy : y.cls = RX4) {a : Nat} {fs : List Value} {v : Value} (hdg : decode cc pc = .ok (.getfield 143, 3)) (q : Nat) (he : w[q]? = some (a, .inr (0, fs))) (hv : fs[3]? = some v) (kk : J D Γ y cc nL ret R Q k n w (pc + 3) lv (v :: st)) : J D Γ y cc nL ret R Q k n w pc lv (.ref a :: st) := by
  obtain ⟨p, e, s, m, args, below, meth, c, A⟩ := Γ
  intro h H locs ls hP hD hS hl
  exact va_get (C := RX0) (T := TX0) (N := 7) h.1 h.2.1 h.2.2.2.2.2.1 m_us_X0 h.2.2.2.2.1 h.2.2.2.2.2.2.2.1 hP q he rfl 3 (by decide) (by rw [hy]; exact h.2.2.2.2.2.1 _ m_fl_X4_143) (fun _ h9 => h9) hv hdg (kk h H locs ls hP hD hS hl)
theorem g_X4_165 (hy : y.cls = RX4) {a : Nat} {fs : List Value} {v : Value} (hdg : decode cc pc = .ok (.getfield 165, 3)) (q : Nat) (he : w[q]? = some (a, .inr (2, fs))) (hv : fs[2]? = some v) (kk : J D Γ y cc nL ret R Q k n w (pc + 3) lv (v :: st)) : J D Γ y cc nL ret R Q k n w pc lv (.ref a :: st) := by
  obtain ⟨p, e, s, m, args, below, meth, c, A⟩ := Γ
  intro h H locs ls hP hD hS hl
  exact va_get (C := RX2) (T := TX2) (N := 3) h.1 h.2.1 h.2.2.2.2.2.1 m_us_X2 h.2.2.2.2.1 h.2.2.2.2.2.2.2.1 hP q he rfl 2 (by decide) (by rw [hy]; exact h.2.2.2.2.2.1 _ m_fl_X4_165) (fun _ h9 => h9) hv hdg (kk h H locs ls hP hD hS hl)
theorem p_X4_165 (hy : y.cls = RX4) {a : Nat} {fs : List Value} {x : Int32} {w2 : va_W} (hdg : decode cc pc = .ok (.putfield 165, 3)) (q : Nat) (he : w[q]? = some (a, .inr (2, fs))) (hlen : 2 < fs.length) (hw : w.set q (a, .inr (2, fs.set 2 (.int x))) = w2) (kk : J D Γ y cc nL ret R Q k n w2 (pc + 3) lv st) : J D Γ y cc nL ret R Q k n w pc lv (.int x :: .ref a :: st) := by
  obtain ⟨p, e, s, m, args, below, meth, c, A⟩ := Γ
  intro h H locs ls hP hD hS hl
  refine va_put (C := RX2) (T := TX2) (N := 3) (ty := .int) h.1 h.2.1 h.2.2.2.2.2.1 m_us_X2 tyX2 tyX2_ok nmX2 h.2.2.2.2.1 h.2.2.2.2.2.2.2.1 hP hD hS q he rfl 2 (by decide) (by rw [hy]; exact h.2.2.2.2.2.1 _ m_fl_X4_165) (fun _ h9 => h9) rfl (by decide +kernel) rfl rfl hlen hdg (fun H1 locs1 hP hD hS => ?_)
  rw [hw] at hP hD
  exact kk h H1 locs1 ls hP hD hS hl
theorem g_X4_180 (hy : y.cls = RX4) {a : Nat} {fs : List Value} {v : Value} (hdg : decode cc pc = .ok (.getfield 180, 3)) (q : Nat) (he : w[q]? = some (a, .inr (0, fs))) (hv : fs[5]? = some v) (kk : J D Γ y cc nL ret R Q k n w (pc + 3) lv (v :: st)) : J D Γ y cc nL ret R Q k n w pc lv (.ref a :: st) := by
  obtain ⟨p, e, s, m, args, below, meth, c, A⟩ := Γ
  intro h H locs ls hP hD hS hl
  exact va_get (C := RX0) (T := TX0) (N := 7) h.1 h.2.1 h.2.2.2.2.2.1 m_us_X0 h.2.2.2.2.1 h.2.2.2.2.2.2.2.1 hP q he rfl 5 (by decide) (by rw [hy]; exact h.2.2.2.2.2.1 _ m_fl_X4_180) (fun _ h9 => h9) hv hdg (kk h H locs ls hP hD hS hl)
theorem p_X4_180 (hy : y.cls = RX4) {a : Nat} {fs : List Value} {x : Int32} {w2 : va_W} (hdg : decode cc pc = .ok (.putfield 180, 3)) (q : Nat) (he : w[q]? = some (a, .inr (0, fs))) (hlen : 5 < fs.length) (hw : w.set q (a, .inr (0, fs.set 5 (.int x))) = w2) (kk : J D Γ y cc nL ret R Q k n w2 (pc + 3) lv st) : J D Γ y cc nL ret R Q k n w pc lv (.int x :: .ref a :: st) := by
  obtain ⟨p, e, s, m, args, below, meth, c, A⟩ := Γ
  intro h H locs ls hP hD hS hl
  refine va_put (C := RX0) (T := TX0) (N := 7) (ty := .int) h.1 h.2.1 h.2.2.2.2.2.1 m_us_X0 tyX0 tyX0_ok nmX0 h.2.2.2.2.1 h.2.2.2.2.2.2.2.1 hP hD hS q he rfl 5 (by decide) (by rw [hy]; exact h.2.2.2.2.2.1 _ m_fl_X4_180) (fun _ h9 => h9) rfl (by decide +kernel) rfl rfl hlen hdg (fun H1 locs1 hP hD hS => ?_)
  rw [hw] at hP hD
  exact kk h H1 locs1 ls hP hD hS hl
theorem g_X4_183 (hy : y.cls = RX4) {a : Nat} {fs : List Value} {v : Value} (hdg : decode cc pc = .ok (.getfield 183, 3)) (q : Nat) (he : w[q]? = some (a, .inr (0, fs))) (hv : fs[6]? = some v) (kk : J D Γ y cc nL ret R Q k n w (pc + 3) lv (v :: st)) : J D Γ y cc nL ret R Q k n w pc lv (.ref a :: st) := by
  obtain ⟨p, e, s, m, args, below, meth, c, A⟩ := Γ
  intro h H locs ls hP hD hS hl
  exact va_get (C := RX0) (T := TX0) (N := 7) h.1 h.2.1 h.2.2.2.2.2.1 m_us_X0 h.2.2.2.2.1 h.2.2.2.2.2.2.2.1 hP q he rfl 6 (by decide) (by rw [hy]; exact h.2.2.2.2.2.1 _ m_fl_X4_183) (fun _ h9 => h9) hv hdg (kk h H locs ls hP hD hS hl)
theorem p_X4_183 (hy : y.cls = RX4) {a : Nat} {fs : List Value} {x : Int32} {w2 : va_W} (hdg : decode cc pc = .ok (.putfield 183, 3)) (q : Nat) (he : w[q]? = some (a, .inr (0, fs))) (hlen : 6 < fs.length) (hw : w.set q (a, .inr (0, fs.set 6 (.int x))) = w2) (kk : J D Γ y cc nL ret R Q k n w2 (pc + 3) lv st) : J D Γ y cc nL ret R Q k n w pc lv (.int x :: .ref a :: st) := by
  obtain ⟨p, e, s, m, args, below, meth, c, A⟩ := Γ
  intro h H locs ls hP hD hS hl
  refine va_put (C := RX0) (T := TX0) (N := 7) (ty := .int) h.1 h.2.1 h.2.2.2.2.2.1 m_us_X0 tyX0 tyX0_ok nmX0 h.2.2.2.2.1 h.2.2.2.2.2.2.2.1 hP hD hS q he rfl 6 (by decide) (by rw [hy]; exact h.2.2.2.2.2.1 _ m_fl_X4_183) (fun _ h9 => h9) rfl (by decide +kernel) rfl rfl hlen hdg (fun H1 locs1 hP hD hS => ?_)
  rw [hw] at hP hD
  exact kk h H1 locs1 ls hP hD hS hl
theorem g_X5_7 (hy : y.cls = RX5) {a : Nat} {fs : List Value} {v : Value} (hdg : decode cc pc = .ok (.getfield 7, 3)) (q : Nat) (he : w[q]? = some (a, .inr (5, fs))) (hv : fs[0]? = some v) (kk : J D Γ y cc nL ret R Q k n w (pc + 3) lv (v :: st)) : J D Γ y cc nL ret R Q k n w pc lv (.ref a :: st) := by
  obtain ⟨p, e, s, m, args, below, meth, c, A⟩ := Γ
  intro h H locs ls hP hD hS hl
  exact va_get (C := RX5) (T := TX5) (N := 17) h.1 h.2.1 h.2.2.2.2.2.1 m_us_X5 h.2.2.2.2.1 h.2.2.2.2.2.2.2.1 hP q he rfl 0 (by decide) (by rw [hy]; exact h.2.2.2.2.2.1 _ m_fl_X5_7) (fun _ h9 => h9) hv hdg (kk h H locs ls hP hD hS hl)
theorem p_X5_7 (hy : y.cls = RX5) (hin : y.name = "<init>") {a : Nat} {fs : List Value} {x : Nat} {w2 : va_W} (hdg : decode cc pc = .ok (.putfield 7, 3)) (q : Nat) (he : w[q]? = some (a, .inr (5, fs))) (hlen : 0 < fs.length) (hw : w.set q (a, .inr (5, fs.set 0 (.ref x))) = w2) (kk : J D Γ y cc nL ret R Q k n w2 (pc + 3) lv st) : J D Γ y cc nL ret R Q k n w pc lv (.ref x :: .ref a :: st) := by
  obtain ⟨p, e, s, m, args, below, meth, c, A⟩ := Γ
  intro h H locs ls hP hD hS hl
  refine va_putF (C := RX5) (T := TX5) (N := 17) (ty := (.array .int)) h.1 h.2.1 h.2.2.2.2.2.1 m_us_X5 tyX5 tyX5_ok nmX5 h.2.2.2.2.1 h.2.2.2.2.2.2.2.1 hP hD hS q he rfl 0 (by decide) (by rw [hy]; exact h.2.2.2.2.2.1 _ m_fl_X5_7) (fun _ h9 => h9) rfl (by rw [h.2.2.2.2.2.2.2.2.2.1]; exact hin) (by rw [hy]; rfl) (by decide +kernel) rfl rfl hlen hdg (fun H1 locs1 hP hD hS => ?_)
  rw [hw] at hP hD
  exact kk h H1 locs1 ls hP hD hS hl
theorem g_X5_13 (hy : y.cls = RX5) {a : Nat} {fs : List Value} {v : Value} (hdg : decode cc pc = .ok (.getfield 13, 3)) (q : Nat) (he : w[q]? = some (a, .inr (5, fs))) (hv : fs[2]? = some v) (kk : J D Γ y cc nL ret R Q k n w (pc + 3) lv (v :: st)) : J D Γ y cc nL ret R Q k n w pc lv (.ref a :: st) := by
  obtain ⟨p, e, s, m, args, below, meth, c, A⟩ := Γ
  intro h H locs ls hP hD hS hl
  exact va_get (C := RX5) (T := TX5) (N := 17) h.1 h.2.1 h.2.2.2.2.2.1 m_us_X5 h.2.2.2.2.1 h.2.2.2.2.2.2.2.1 hP q he rfl 2 (by decide) (by rw [hy]; exact h.2.2.2.2.2.1 _ m_fl_X5_13) (fun _ h9 => h9) hv hdg (kk h H locs ls hP hD hS hl)
theorem p_X5_13 (hy : y.cls = RX5) (hin : y.name = "<init>") {a : Nat} {fs : List Value} {x : Nat} {w2 : va_W} (hdg : decode cc pc = .ok (.putfield 13, 3)) (q : Nat) (he : w[q]? = some (a, .inr (5, fs))) (hlen : 2 < fs.length) (hw : w.set q (a, .inr (5, fs.set 2 (.ref x))) = w2) (kk : J D Γ y cc nL ret R Q k n w2 (pc + 3) lv st) : J D Γ y cc nL ret R Q k n w pc lv (.ref x :: .ref a :: st) := by
  obtain ⟨p, e, s, m, args, below, meth, c, A⟩ := Γ
  intro h H locs ls hP hD hS hl
  refine va_putF (C := RX5) (T := TX5) (N := 17) (ty := (.array .int)) h.1 h.2.1 h.2.2.2.2.2.1 m_us_X5 tyX5 tyX5_ok nmX5 h.2.2.2.2.1 h.2.2.2.2.2.2.2.1 hP hD hS q he rfl 2 (by decide) (by rw [hy]; exact h.2.2.2.2.2.1 _ m_fl_X5_13) (fun _ h9 => h9) rfl (by rw [h.2.2.2.2.2.2.2.2.2.1]; exact hin) (by rw [hy]; rfl) (by decide +kernel) rfl rfl hlen hdg (fun H1 locs1 hP hD hS => ?_)
  rw [hw] at hP hD
  exact kk h H1 locs1 ls hP hD hS hl
theorem g_X5_16 (hy : y.cls = RX5) {a : Nat} {fs : List Value} {v : Value} (hdg : decode cc pc = .ok (.getfield 16, 3)) (q : Nat) (he : w[q]? = some (a, .inr (5, fs))) (hv : fs[3]? = some v) (kk : J D Γ y cc nL ret R Q k n w (pc + 3) lv (v :: st)) : J D Γ y cc nL ret R Q k n w pc lv (.ref a :: st) := by
  obtain ⟨p, e, s, m, args, below, meth, c, A⟩ := Γ
  intro h H locs ls hP hD hS hl
  exact va_get (C := RX5) (T := TX5) (N := 17) h.1 h.2.1 h.2.2.2.2.2.1 m_us_X5 h.2.2.2.2.1 h.2.2.2.2.2.2.2.1 hP q he rfl 3 (by decide) (by rw [hy]; exact h.2.2.2.2.2.1 _ m_fl_X5_16) (fun _ h9 => h9) hv hdg (kk h H locs ls hP hD hS hl)
theorem p_X5_16 (hy : y.cls = RX5) (hin : y.name = "<init>") {a : Nat} {fs : List Value} {x : Nat} {w2 : va_W} (hdg : decode cc pc = .ok (.putfield 16, 3)) (q : Nat) (he : w[q]? = some (a, .inr (5, fs))) (hlen : 3 < fs.length) (hw : w.set q (a, .inr (5, fs.set 3 (.ref x))) = w2) (kk : J D Γ y cc nL ret R Q k n w2 (pc + 3) lv st) : J D Γ y cc nL ret R Q k n w pc lv (.ref x :: .ref a :: st) := by
  obtain ⟨p, e, s, m, args, below, meth, c, A⟩ := Γ
  intro h H locs ls hP hD hS hl
  refine va_putF (C := RX5) (T := TX5) (N := 17) (ty := (.array .boolean)) h.1 h.2.1 h.2.2.2.2.2.1 m_us_X5 tyX5 tyX5_ok nmX5 h.2.2.2.2.1 h.2.2.2.2.2.2.2.1 hP hD hS q he rfl 3 (by decide) (by rw [hy]; exact h.2.2.2.2.2.1 _ m_fl_X5_16) (fun _ h9 => h9) rfl (by rw [h.2.2.2.2.2.2.2.2.2.1]; exact hin) (by rw [hy]; rfl) (by decide +kernel) rfl rfl hlen hdg (fun H1 locs1 hP hD hS => ?_)
  rw [hw] at hP hD
  exact kk h H1 locs1 ls hP hD hS hl
theorem g_X5_20 (hy : y.cls = RX5) {a : Nat} {fs : List Value} {v : Value} (hdg : decode cc pc = .ok (.getfield 20, 3)) (q : Nat) (he : w[q]? = some (a, .inr (5, fs))) (hv : fs[4]? = some v) (kk : J D Γ y cc nL ret R Q k n w (pc + 3) lv (v :: st)) : J D Γ y cc nL ret R Q k n w pc lv (.ref a :: st) := by
  obtain ⟨p, e, s, m, args, below, meth, c, A⟩ := Γ
  intro h H locs ls hP hD hS hl
  exact va_get (C := RX5) (T := TX5) (N := 17) h.1 h.2.1 h.2.2.2.2.2.1 m_us_X5 h.2.2.2.2.1 h.2.2.2.2.2.2.2.1 hP q he rfl 4 (by decide) (by rw [hy]; exact h.2.2.2.2.2.1 _ m_fl_X5_20) (fun _ h9 => h9) hv hdg (kk h H locs ls hP hD hS hl)
theorem p_X5_20 (hy : y.cls = RX5) (hin : y.name = "<init>") {a : Nat} {fs : List Value} {x : Nat} {w2 : va_W} (hdg : decode cc pc = .ok (.putfield 20, 3)) (q : Nat) (he : w[q]? = some (a, .inr (5, fs))) (hlen : 4 < fs.length) (hw : w.set q (a, .inr (5, fs.set 4 (.ref x))) = w2) (kk : J D Γ y cc nL ret R Q k n w2 (pc + 3) lv st) : J D Γ y cc nL ret R Q k n w pc lv (.ref x :: .ref a :: st) := by
  obtain ⟨p, e, s, m, args, below, meth, c, A⟩ := Γ
  intro h H locs ls hP hD hS hl
  refine va_putF (C := RX5) (T := TX5) (N := 17) (ty := (.array .int)) h.1 h.2.1 h.2.2.2.2.2.1 m_us_X5 tyX5 tyX5_ok nmX5 h.2.2.2.2.1 h.2.2.2.2.2.2.2.1 hP hD hS q he rfl 4 (by decide) (by rw [hy]; exact h.2.2.2.2.2.1 _ m_fl_X5_20) (fun _ h9 => h9) rfl (by rw [h.2.2.2.2.2.2.2.2.2.1]; exact hin) (by rw [hy]; rfl) (by decide +kernel) rfl rfl hlen hdg (fun H1 locs1 hP hD hS => ?_)
  rw [hw] at hP hD
  exact kk h H1 locs1 ls hP hD hS hl
theorem g_X5_23 (hy : y.cls = RX5) {a : Nat} {fs : List Value} {v : Value} (hdg : decode cc pc = .ok (.getfield 23, 3)) (q : Nat) (he : w[q]? = some (a, .inr (5, fs))) (hv : fs[5]? = some v) (kk : J D Γ y cc nL ret R Q k n w (pc + 3) lv (v :: st)) : J D Γ y cc nL ret R Q k n w pc lv (.ref a :: st) := by
  obtain ⟨p, e, s, m, args, below, meth, c, A⟩ := Γ
  intro h H locs ls hP hD hS hl
  exact va_get (C := RX5) (T := TX5) (N := 17) h.1 h.2.1 h.2.2.2.2.2.1 m_us_X5 h.2.2.2.2.1 h.2.2.2.2.2.2.2.1 hP q he rfl 5 (by decide) (by rw [hy]; exact h.2.2.2.2.2.1 _ m_fl_X5_23) (fun _ h9 => h9) hv hdg (kk h H locs ls hP hD hS hl)
theorem p_X5_23 (hy : y.cls = RX5) (hin : y.name = "<init>") {a : Nat} {fs : List Value} {x : Nat} {w2 : va_W} (hdg : decode cc pc = .ok (.putfield 23, 3)) (q : Nat) (he : w[q]? = some (a, .inr (5, fs))) (hlen : 5 < fs.length) (hw : w.set q (a, .inr (5, fs.set 5 (.ref x))) = w2) (kk : J D Γ y cc nL ret R Q k n w2 (pc + 3) lv st) : J D Γ y cc nL ret R Q k n w pc lv (.ref x :: .ref a :: st) := by
  obtain ⟨p, e, s, m, args, below, meth, c, A⟩ := Γ
  intro h H locs ls hP hD hS hl
  refine va_putF (C := RX5) (T := TX5) (N := 17) (ty := (.array .int)) h.1 h.2.1 h.2.2.2.2.2.1 m_us_X5 tyX5 tyX5_ok nmX5 h.2.2.2.2.1 h.2.2.2.2.2.2.2.1 hP hD hS q he rfl 5 (by decide) (by rw [hy]; exact h.2.2.2.2.2.1 _ m_fl_X5_23) (fun _ h9 => h9) rfl (by rw [h.2.2.2.2.2.2.2.2.2.1]; exact hin) (by rw [hy]; rfl) (by decide +kernel) rfl rfl hlen hdg (fun H1 locs1 hP hD hS => ?_)
  rw [hw] at hP hD
  exact kk h H1 locs1 ls hP hD hS hl
theorem g_X5_26 (hy : y.cls = RX5) {a : Nat} {fs : List Value} {v : Value} (hdg : decode cc pc = .ok (.getfield 26, 3)) (q : Nat) (he : w[q]? = some (a, .inr (5, fs))) (hv : fs[7]? = some v) (kk : J D Γ y cc nL ret R Q k n w (pc + 3) lv (v :: st)) : J D Γ y cc nL ret R Q k n w pc lv (.ref a :: st) := by
  obtain ⟨p, e, s, m, args, below, meth, c, A⟩ := Γ
  intro h H locs ls hP hD hS hl
  exact va_get (C := RX5) (T := TX5) (N := 17) h.1 h.2.1 h.2.2.2.2.2.1 m_us_X5 h.2.2.2.2.1 h.2.2.2.2.2.2.2.1 hP q he rfl 7 (by decide) (by rw [hy]; exact h.2.2.2.2.2.1 _ m_fl_X5_26) (fun _ h9 => h9) hv hdg (kk h H locs ls hP hD hS hl)
theorem p_X5_26 (hy : y.cls = RX5) (hin : y.name = "<init>") {a : Nat} {fs : List Value} {x : Nat} {w2 : va_W} (hdg : decode cc pc = .ok (.putfield 26, 3)) (q : Nat) (he : w[q]? = some (a, .inr (5, fs))) (hlen : 7 < fs.length) (hw : w.set q (a, .inr (5, fs.set 7 (.ref x))) = w2) (kk : J D Γ y cc nL ret R Q k n w2 (pc + 3) lv st) : J D Γ y cc nL ret R Q k n w pc lv (.ref x :: .ref a :: st) := by
  obtain ⟨p, e, s, m, args, below, meth, c, A⟩ := Γ
  intro h H locs ls hP hD hS hl
  refine va_putF (C := RX5) (T := TX5) (N := 17) (ty := (.array .int)) h.1 h.2.1 h.2.2.2.2.2.1 m_us_X5 tyX5 tyX5_ok nmX5 h.2.2.2.2.1 h.2.2.2.2.2.2.2.1 hP hD hS q he rfl 7 (by decide) (by rw [hy]; exact h.2.2.2.2.2.1 _ m_fl_X5_26) (fun _ h9 => h9) rfl (by rw [h.2.2.2.2.2.2.2.2.2.1]; exact hin) (by rw [hy]; rfl) (by decide +kernel) rfl rfl hlen hdg (fun H1 locs1 hP hD hS => ?_)
  rw [hw] at hP hD
  exact kk h H1 locs1 ls hP hD hS hl
theorem g_X5_29 (hy : y.cls = RX5) {a : Nat} {fs : List Value} {v : Value} (hdg : decode cc pc = .ok (.getfield 29, 3)) (q : Nat) (he : w[q]? = some (a, .inr (5, fs))) (hv : fs[8]? = some v) (kk : J D Γ y cc nL ret R Q k n w (pc + 3) lv (v :: st)) : J D Γ y cc nL ret R Q k n w pc lv (.ref a :: st) := by
  obtain ⟨p, e, s, m, args, below, meth, c, A⟩ := Γ
  intro h H locs ls hP hD hS hl
  exact va_get (C := RX5) (T := TX5) (N := 17) h.1 h.2.1 h.2.2.2.2.2.1 m_us_X5 h.2.2.2.2.1 h.2.2.2.2.2.2.2.1 hP q he rfl 8 (by decide) (by rw [hy]; exact h.2.2.2.2.2.1 _ m_fl_X5_29) (fun _ h9 => h9) hv hdg (kk h H locs ls hP hD hS hl)
theorem p_X5_29 (hy : y.cls = RX5) (hin : y.name = "<init>") {a : Nat} {fs : List Value} {x : Nat} {w2 : va_W} (hdg : decode cc pc = .ok (.putfield 29, 3)) (q : Nat) (he : w[q]? = some (a, .inr (5, fs))) (hlen : 8 < fs.length) (hw : w.set q (a, .inr (5, fs.set 8 (.ref x))) = w2) (kk : J D Γ y cc nL ret R Q k n w2 (pc + 3) lv st) : J D Γ y cc nL ret R Q k n w pc lv (.ref x :: .ref a :: st) := by
  obtain ⟨p, e, s, m, args, below, meth, c, A⟩ := Γ
  intro h H locs ls hP hD hS hl
  refine va_putF (C := RX5) (T := TX5) (N := 17) (ty := (.array .int)) h.1 h.2.1 h.2.2.2.2.2.1 m_us_X5 tyX5 tyX5_ok nmX5 h.2.2.2.2.1 h.2.2.2.2.2.2.2.1 hP hD hS q he rfl 8 (by decide) (by rw [hy]; exact h.2.2.2.2.2.1 _ m_fl_X5_29) (fun _ h9 => h9) rfl (by rw [h.2.2.2.2.2.2.2.2.2.1]; exact hin) (by rw [hy]; rfl) (by decide +kernel) rfl rfl hlen hdg (fun H1 locs1 hP hD hS => ?_)
  rw [hw] at hP hD
  exact kk h H1 locs1 ls hP hD hS hl
theorem g_X5_32 (hy : y.cls = RX5) {a : Nat} {fs : List Value} {v : Value} (hdg : decode cc pc = .ok (.getfield 32, 3)) (q : Nat) (he : w[q]? = some (a, .inr (5, fs))) (hv : fs[10]? = some v) (kk : J D Γ y cc nL ret R Q k n w (pc + 3) lv (v :: st)) : J D Γ y cc nL ret R Q k n w pc lv (.ref a :: st) := by
  obtain ⟨p, e, s, m, args, below, meth, c, A⟩ := Γ
  intro h H locs ls hP hD hS hl
  exact va_get (C := RX5) (T := TX5) (N := 17) h.1 h.2.1 h.2.2.2.2.2.1 m_us_X5 h.2.2.2.2.1 h.2.2.2.2.2.2.2.1 hP q he rfl 10 (by decide) (by rw [hy]; exact h.2.2.2.2.2.1 _ m_fl_X5_32) (fun _ h9 => h9) hv hdg (kk h H locs ls hP hD hS hl)
theorem p_X5_32 (hy : y.cls = RX5) (hin : y.name = "<init>") {a : Nat} {fs : List Value} {x : Nat} {w2 : va_W} (hdg : decode cc pc = .ok (.putfield 32, 3)) (q : Nat) (he : w[q]? = some (a, .inr (5, fs))) (hlen : 10 < fs.length) (hw : w.set q (a, .inr (5, fs.set 10 (.ref x))) = w2) (kk : J D Γ y cc nL ret R Q k n w2 (pc + 3) lv st) : J D Γ y cc nL ret R Q k n w pc lv (.ref x :: .ref a :: st) := by
  obtain ⟨p, e, s, m, args, below, meth, c, A⟩ := Γ
  intro h H locs ls hP hD hS hl
  refine va_putF (C := RX5) (T := TX5) (N := 17) (ty := (.array .int)) h.1 h.2.1 h.2.2.2.2.2.1 m_us_X5 tyX5 tyX5_ok nmX5 h.2.2.2.2.1 h.2.2.2.2.2.2.2.1 hP hD hS q he rfl 10 (by decide) (by rw [hy]; exact h.2.2.2.2.2.1 _ m_fl_X5_32) (fun _ h9 => h9) rfl (by rw [h.2.2.2.2.2.2.2.2.2.1]; exact hin) (by rw [hy]; rfl) (by decide +kernel) rfl rfl hlen hdg (fun H1 locs1 hP hD hS => ?_)
  rw [hw] at hP hD
  exact kk h H1 locs1 ls hP hD hS hl
theorem g_X5_35 (hy : y.cls = RX5) {a : Nat} {fs : List Value} {v : Value} (hdg : decode cc pc = .ok (.getfield 35, 3)) (q : Nat) (he : w[q]? = some (a, .inr (5, fs))) (hv : fs[15]? = some v) (kk : J D Γ y cc nL ret R Q k n w (pc + 3) lv (v :: st)) : J D Γ y cc nL ret R Q k n w pc lv (.ref a :: st) := by
  obtain ⟨p, e, s, m, args, below, meth, c, A⟩ := Γ
  intro h H locs ls hP hD hS hl
  exact va_get (C := RX5) (T := TX5) (N := 17) h.1 h.2.1 h.2.2.2.2.2.1 m_us_X5 h.2.2.2.2.1 h.2.2.2.2.2.2.2.1 hP q he rfl 15 (by decide) (by rw [hy]; exact h.2.2.2.2.2.1 _ m_fl_X5_35) (fun _ h9 => h9) hv hdg (kk h H locs ls hP hD hS hl)
theorem p_X5_35 (hy : y.cls = RX5) (hin : y.name = "<init>") {a : Nat} {fs : List Value} {x : Nat} {w2 : va_W} (hdg : decode cc pc = .ok (.putfield 35, 3)) (q : Nat) (he : w[q]? = some (a, .inr (5, fs))) (hlen : 15 < fs.length) (hw : w.set q (a, .inr (5, fs.set 15 (.ref x))) = w2) (kk : J D Γ y cc nL ret R Q k n w2 (pc + 3) lv st) : J D Γ y cc nL ret R Q k n w pc lv (.ref x :: .ref a :: st) := by
  obtain ⟨p, e, s, m, args, below, meth, c, A⟩ := Γ
  intro h H locs ls hP hD hS hl
  refine va_putF (C := RX5) (T := TX5) (N := 17) (ty := (.array .int)) h.1 h.2.1 h.2.2.2.2.2.1 m_us_X5 tyX5 tyX5_ok nmX5 h.2.2.2.2.1 h.2.2.2.2.2.2.2.1 hP hD hS q he rfl 15 (by decide) (by rw [hy]; exact h.2.2.2.2.2.1 _ m_fl_X5_35) (fun _ h9 => h9) rfl (by rw [h.2.2.2.2.2.2.2.2.2.1]; exact hin) (by rw [hy]; rfl) (by decide +kernel) rfl rfl hlen hdg (fun H1 locs1 hP hD hS => ?_)
  rw [hw] at hP hD
  exact kk h H1 locs1 ls hP hD hS hl
theorem g_X5_42 (hy : y.cls = RX5) {a : Nat} {fs : List Value} {v : Value} (hdg : decode cc pc = .ok (.getfield 42, 3)) (q : Nat) (he : w[q]? = some (a, .inr (5, fs))) (hv : fs[9]? = some v) (kk : J D Γ y cc nL ret R Q k n w (pc + 3) lv (v :: st)) : J D Γ y cc nL ret R Q k n w pc lv (.ref a :: st) := by
  obtain ⟨p, e, s, m, args, below, meth, c, A⟩ := Γ
  intro h H locs ls hP hD hS hl
  exact va_get (C := RX5) (T := TX5) (N := 17) h.1 h.2.1 h.2.2.2.2.2.1 m_us_X5 h.2.2.2.2.1 h.2.2.2.2.2.2.2.1 hP q he rfl 9 (by decide) (by rw [hy]; exact h.2.2.2.2.2.1 _ m_fl_X5_42) (fun _ h9 => h9) hv hdg (kk h H locs ls hP hD hS hl)
theorem p_X5_42 (hy : y.cls = RX5) {a : Nat} {fs : List Value} {x : Int32} {w2 : va_W} (hdg : decode cc pc = .ok (.putfield 42, 3)) (q : Nat) (he : w[q]? = some (a, .inr (5, fs))) (hlen : 9 < fs.length) (hw : w.set q (a, .inr (5, fs.set 9 (.int x))) = w2) (kk : J D Γ y cc nL ret R Q k n w2 (pc + 3) lv st) : J D Γ y cc nL ret R Q k n w pc lv (.int x :: .ref a :: st) := by
  obtain ⟨p, e, s, m, args, below, meth, c, A⟩ := Γ
  intro h H locs ls hP hD hS hl
  refine va_put (C := RX5) (T := TX5) (N := 17) (ty := .int) h.1 h.2.1 h.2.2.2.2.2.1 m_us_X5 tyX5 tyX5_ok nmX5 h.2.2.2.2.1 h.2.2.2.2.2.2.2.1 hP hD hS q he rfl 9 (by decide) (by rw [hy]; exact h.2.2.2.2.2.1 _ m_fl_X5_42) (fun _ h9 => h9) rfl (by decide +kernel) rfl rfl hlen hdg (fun H1 locs1 hP hD hS => ?_)
  rw [hw] at hP hD
  exact kk h H1 locs1 ls hP hD hS hl
theorem g_X5_46 (hy : y.cls = RX5) {a : Nat} {fs : List Value} {v : Value} (hdg : decode cc pc = .ok (.getfield 46, 3)) (q : Nat) (he : w[q]? = some (a, .inr (5, fs))) (hv : fs[11]? = some v) (kk : J D Γ y cc nL ret R Q k n w (pc + 3) lv (v :: st)) : J D Γ y cc nL ret R Q k n w pc lv (.ref a :: st) := by
  obtain ⟨p, e, s, m, args, below, meth, c, A⟩ := Γ
  intro h H locs ls hP hD hS hl
  exact va_get (C := RX5) (T := TX5) (N := 17) h.1 h.2.1 h.2.2.2.2.2.1 m_us_X5 h.2.2.2.2.1 h.2.2.2.2.2.2.2.1 hP q he rfl 11 (by decide) (by rw [hy]; exact h.2.2.2.2.2.1 _ m_fl_X5_46) (fun _ h9 => h9) hv hdg (kk h H locs ls hP hD hS hl)
theorem p_X5_46 (hy : y.cls = RX5) {a : Nat} {fs : List Value} {x : Int32} {w2 : va_W} (hdg : decode cc pc = .ok (.putfield 46, 3)) (q : Nat) (he : w[q]? = some (a, .inr (5, fs))) (hlen : 11 < fs.length) (hw : w.set q (a, .inr (5, fs.set 11 (.int x))) = w2) (kk : J D Γ y cc nL ret R Q k n w2 (pc + 3) lv st) : J D Γ y cc nL ret R Q k n w pc lv (.int x :: .ref a :: st) := by
  obtain ⟨p, e, s, m, args, below, meth, c, A⟩ := Γ
  intro h H locs ls hP hD hS hl
  refine va_put (C := RX5) (T := TX5) (N := 17) (ty := .int) h.1 h.2.1 h.2.2.2.2.2.1 m_us_X5 tyX5 tyX5_ok nmX5 h.2.2.2.2.1 h.2.2.2.2.2.2.2.1 hP hD hS q he rfl 11 (by decide) (by rw [hy]; exact h.2.2.2.2.2.1 _ m_fl_X5_46) (fun _ h9 => h9) rfl (by decide +kernel) rfl rfl hlen hdg (fun H1 locs1 hP hD hS => ?_)
  rw [hw] at hP hD
  exact kk h H1 locs1 ls hP hD hS hl
theorem g_X5_53 (hy : y.cls = RX5) {a : Nat} {fs : List Value} {v : Value} (hdg : decode cc pc = .ok (.getfield 53, 3)) (q : Nat) (he : w[q]? = some (a, .inr (5, fs))) (hv : fs[13]? = some v) (kk : J D Γ y cc nL ret R Q k n w (pc + 3) lv (v :: st)) : J D Γ y cc nL ret R Q k n w pc lv (.ref a :: st) := by
  obtain ⟨p, e, s, m, args, below, meth, c, A⟩ := Γ
  intro h H locs ls hP hD hS hl
  exact va_get (C := RX5) (T := TX5) (N := 17) h.1 h.2.1 h.2.2.2.2.2.1 m_us_X5 h.2.2.2.2.1 h.2.2.2.2.2.2.2.1 hP q he rfl 13 (by decide) (by rw [hy]; exact h.2.2.2.2.2.1 _ m_fl_X5_53) (fun _ h9 => h9) hv hdg (kk h H locs ls hP hD hS hl)
theorem p_X5_53 (hy : y.cls = RX5) {a : Nat} {fs : List Value} {x : Int32} {w2 : va_W} (hdg : decode cc pc = .ok (.putfield 53, 3)) (q : Nat) (he : w[q]? = some (a, .inr (5, fs))) (hlen : 13 < fs.length) (hw : w.set q (a, .inr (5, fs.set 13 (.int x))) = w2) (kk : J D Γ y cc nL ret R Q k n w2 (pc + 3) lv st) : J D Γ y cc nL ret R Q k n w pc lv (.int x :: .ref a :: st) := by
  obtain ⟨p, e, s, m, args, below, meth, c, A⟩ := Γ
  intro h H locs ls hP hD hS hl
  refine va_put (C := RX5) (T := TX5) (N := 17) (ty := .int) h.1 h.2.1 h.2.2.2.2.2.1 m_us_X5 tyX5 tyX5_ok nmX5 h.2.2.2.2.1 h.2.2.2.2.2.2.2.1 hP hD hS q he rfl 13 (by decide) (by rw [hy]; exact h.2.2.2.2.2.1 _ m_fl_X5_53) (fun _ h9 => h9) rfl (by decide +kernel) rfl rfl hlen hdg (fun H1 locs1 hP hD hS => ?_)
  rw [hw] at hP hD
  exact kk h H1 locs1 ls hP hD hS hl
theorem g_X5_56 (hy : y.cls = RX5) {a : Nat} {fs : List Value} {v : Value} (hdg : decode cc pc = .ok (.getfield 56, 3)) (q : Nat) (he : w[q]? = some (a, .inr (5, fs))) (hv : fs[14]? = some v) (kk : J D Γ y cc nL ret R Q k n w (pc + 3) lv (v :: st)) : J D Γ y cc nL ret R Q k n w pc lv (.ref a :: st) := by
  obtain ⟨p, e, s, m, args, below, meth, c, A⟩ := Γ
  intro h H locs ls hP hD hS hl
  exact va_get (C := RX5) (T := TX5) (N := 17) h.1 h.2.1 h.2.2.2.2.2.1 m_us_X5 h.2.2.2.2.1 h.2.2.2.2.2.2.2.1 hP q he rfl 14 (by decide) (by rw [hy]; exact h.2.2.2.2.2.1 _ m_fl_X5_56) (fun _ h9 => h9) hv hdg (kk h H locs ls hP hD hS hl)
theorem p_X5_56 (hy : y.cls = RX5) {a : Nat} {fs : List Value} {x : Int32} {w2 : va_W} (hdg : decode cc pc = .ok (.putfield 56, 3)) (q : Nat) (he : w[q]? = some (a, .inr (5, fs))) (hlen : 14 < fs.length) (hw : w.set q (a, .inr (5, fs.set 14 (.int x))) = w2) (kk : J D Γ y cc nL ret R Q k n w2 (pc + 3) lv st) : J D Γ y cc nL ret R Q k n w pc lv (.int x :: .ref a :: st) := by
  obtain ⟨p, e, s, m, args, below, meth, c, A⟩ := Γ
  intro h H locs ls hP hD hS hl
  refine va_put (C := RX5) (T := TX5) (N := 17) (ty := .int) h.1 h.2.1 h.2.2.2.2.2.1 m_us_X5 tyX5 tyX5_ok nmX5 h.2.2.2.2.1 h.2.2.2.2.2.2.2.1 hP hD hS q he rfl 14 (by decide) (by rw [hy]; exact h.2.2.2.2.2.1 _ m_fl_X5_56) (fun _ h9 => h9) rfl (by decide +kernel) rfl rfl hlen hdg (fun H1 locs1 hP hD hS => ?_)
  rw [hw] at hP hD
  exact kk h H1 locs1 ls hP hD hS hl
theorem g_X5_59 (hy : y.cls = RX5) {a : Nat} {fs : List Value} {v : Value} (hdg : decode cc pc = .ok (.getfield 59, 3)) (q : Nat) (he : w[q]? = some (a, .inr (5, fs))) (hv : fs[12]? = some v) (kk : J D Γ y cc nL ret R Q k n w (pc + 3) lv (v :: st)) : J D Γ y cc nL ret R Q k n w pc lv (.ref a :: st) := by
  obtain ⟨p, e, s, m, args, below, meth, c, A⟩ := Γ
  intro h H locs ls hP hD hS hl
  exact va_get (C := RX5) (T := TX5) (N := 17) h.1 h.2.1 h.2.2.2.2.2.1 m_us_X5 h.2.2.2.2.1 h.2.2.2.2.2.2.2.1 hP q he rfl 12 (by decide) (by rw [hy]; exact h.2.2.2.2.2.1 _ m_fl_X5_59) (fun _ h9 => h9) hv hdg (kk h H locs ls hP hD hS hl)
theorem p_X5_59 (hy : y.cls = RX5) {a : Nat} {fs : List Value} {x : Int32} {w2 : va_W} (hdg : decode cc pc = .ok (.putfield 59, 3)) (q : Nat) (he : w[q]? = some (a, .inr (5, fs))) (hlen : 12 < fs.length) (hw : w.set q (a, .inr (5, fs.set 12 (.int x))) = w2) (kk : J D Γ y cc nL ret R Q k n w2 (pc + 3) lv st) : J D Γ y cc nL ret R Q k n w pc lv (.int x :: .ref a :: st) := by
  obtain ⟨p, e, s, m, args, below, meth, c, A⟩ := Γ
  intro h H locs ls hP hD hS hl
  refine va_put (C := RX5) (T := TX5) (N := 17) (ty := .int) h.1 h.2.1 h.2.2.2.2.2.1 m_us_X5 tyX5 tyX5_ok nmX5 h.2.2.2.2.1 h.2.2.2.2.2.2.2.1 hP hD hS q he rfl 12 (by decide) (by rw [hy]; exact h.2.2.2.2.2.1 _ m_fl_X5_59) (fun _ h9 => h9) rfl (by decide +kernel) rfl rfl hlen hdg (fun H1 locs1 hP hD hS => ?_)
  rw [hw] at hP hD
  exact kk h H1 locs1 ls hP hD hS hl
theorem g_X5_89 (hy : y.cls = RX5) {a : Nat} {fs : List Value} {v : Value} (hdg : decode cc pc = .ok (.getfield 89, 3)) (q : Nat) (he : w[q]? = some (a, .inr (5, fs))) (hv : fs[16]? = some v) (kk : J D Γ y cc nL ret R Q k n w (pc + 3) lv (v :: st)) : J D Γ y cc nL ret R Q k n w pc lv (.ref a :: st) := by
  obtain ⟨p, e, s, m, args, below, meth, c, A⟩ := Γ
  intro h H locs ls hP hD hS hl
  exact va_get (C := RX5) (T := TX5) (N := 17) h.1 h.2.1 h.2.2.2.2.2.1 m_us_X5 h.2.2.2.2.1 h.2.2.2.2.2.2.2.1 hP q he rfl 16 (by decide) (by rw [hy]; exact h.2.2.2.2.2.1 _ m_fl_X5_89) (fun _ h9 => h9) hv hdg (kk h H locs ls hP hD hS hl)
theorem p_X5_89 (hy : y.cls = RX5) {a : Nat} {fs : List Value} {x : Int32} {w2 : va_W} (hdg : decode cc pc = .ok (.putfield 89, 3)) (q : Nat) (he : w[q]? = some (a, .inr (5, fs))) (hlen : 16 < fs.length) (hw : w.set q (a, .inr (5, fs.set 16 (.int x))) = w2) (kk : J D Γ y cc nL ret R Q k n w2 (pc + 3) lv st) : J D Γ y cc nL ret R Q k n w pc lv (.int x :: .ref a :: st) := by
  obtain ⟨p, e, s, m, args, below, meth, c, A⟩ := Γ
  intro h H locs ls hP hD hS hl
  refine va_put (C := RX5) (T := TX5) (N := 17) (ty := .int) h.1 h.2.1 h.2.2.2.2.2.1 m_us_X5 tyX5 tyX5_ok nmX5 h.2.2.2.2.1 h.2.2.2.2.2.2.2.1 hP hD hS q he rfl 16 (by decide) (by rw [hy]; exact h.2.2.2.2.2.1 _ m_fl_X5_89) (fun _ h9 => h9) rfl (by decide +kernel) rfl rfl hlen hdg (fun H1 locs1 hP hD hS => ?_)
  rw [hw] at hP hD
  exact kk h H1 locs1 ls hP hD hS hl
theorem g_X5_98 (hy : y.cls = RX5) {a : Nat} {fs : List Value} {v : Value} (hdg : decode cc pc = .ok (.getfield 98, 3)) (q : Nat) (he : w[q]? = some (a, .inr (5, fs))) (hv : fs[1]? = some v) (kk : J D Γ y cc nL ret R Q k n w (pc + 3) lv (v :: st)) : J D Γ y cc nL ret R Q k n w pc lv (.ref a :: st) := by
  obtain ⟨p, e, s, m, args, below, meth, c, A⟩ := Γ
  intro h H locs ls hP hD hS hl
  exact va_get (C := RX5) (T := TX5) (N := 17) h.1 h.2.1 h.2.2.2.2.2.1 m_us_X5 h.2.2.2.2.1 h.2.2.2.2.2.2.2.1 hP q he rfl 1 (by decide) (by rw [hy]; exact h.2.2.2.2.2.1 _ m_fl_X5_98) (fun _ h9 => h9) hv hdg (kk h H locs ls hP hD hS hl)
theorem p_X5_98 (hy : y.cls = RX5) {a : Nat} {fs : List Value} {x : Int32} {w2 : va_W} (hdg : decode cc pc = .ok (.putfield 98, 3)) (q : Nat) (he : w[q]? = some (a, .inr (5, fs))) (hlen : 1 < fs.length) (hw : w.set q (a, .inr (5, fs.set 1 (.int x))) = w2) (kk : J D Γ y cc nL ret R Q k n w2 (pc + 3) lv st) : J D Γ y cc nL ret R Q k n w pc lv (.int x :: .ref a :: st) := by
  obtain ⟨p, e, s, m, args, below, meth, c, A⟩ := Γ
  intro h H locs ls hP hD hS hl
  refine va_put (C := RX5) (T := TX5) (N := 17) (ty := .int) h.1 h.2.1 h.2.2.2.2.2.1 m_us_X5 tyX5 tyX5_ok nmX5 h.2.2.2.2.1 h.2.2.2.2.2.2.2.1 hP hD hS q he rfl 1 (by decide) (by rw [hy]; exact h.2.2.2.2.2.1 _ m_fl_X5_98) (fun _ h9 => h9) rfl (by decide +kernel) rfl rfl hlen hdg (fun H1 locs1 hP hD hS => ?_)
  rw [hw] at hP hD
  exact kk h H1 locs1 ls hP hD hS hl
theorem g_X5_161 (hy : y.cls = RX5) {a : Nat} {fs : List Value} {v : Value} (hdg : decode cc pc = .ok (.getfield 161, 3)) (q : Nat) (he : w[q]? = some (a, .inr (5, fs))) (hv : fs[6]? = some v) (kk : J D Γ y cc nL ret R Q k n w (pc + 3) lv (v :: st)) : J D Γ y cc nL ret R Q k n w pc lv (.ref a :: st) := by
  obtain ⟨p, e, s, m, args, below, meth, c, A⟩ := Γ
  intro h H locs ls hP hD hS hl
  exact va_get (C := RX5) (T := TX5) (N := 17) h.1 h.2.1 h.2.2.2.2.2.1 m_us_X5 h.2.2.2.2.1 h.2.2.2.2.2.2.2.1 hP q he rfl 6 (by decide) (by rw [hy]; exact h.2.2.2.2.2.1 _ m_fl_X5_161) (fun _ h9 => h9) hv hdg (kk h H locs ls hP hD hS hl)
theorem p_X5_161 (hy : y.cls = RX5) {a : Nat} {fs : List Value} {x : Int32} {w2 : va_W} (hdg : decode cc pc = .ok (.putfield 161, 3)) (q : Nat) (he : w[q]? = some (a, .inr (5, fs))) (hlen : 6 < fs.length) (hw : w.set q (a, .inr (5, fs.set 6 (.int x))) = w2) (kk : J D Γ y cc nL ret R Q k n w2 (pc + 3) lv st) : J D Γ y cc nL ret R Q k n w pc lv (.int x :: .ref a :: st) := by
  obtain ⟨p, e, s, m, args, below, meth, c, A⟩ := Γ
  intro h H locs ls hP hD hS hl
  refine va_put (C := RX5) (T := TX5) (N := 17) (ty := .int) h.1 h.2.1 h.2.2.2.2.2.1 m_us_X5 tyX5 tyX5_ok nmX5 h.2.2.2.2.1 h.2.2.2.2.2.2.2.1 hP hD hS q he rfl 6 (by decide) (by rw [hy]; exact h.2.2.2.2.2.1 _ m_fl_X5_161) (fun _ h9 => h9) rfl (by decide +kernel) rfl rfl hlen hdg (fun H1 locs1 hP hD hS => ?_)
  rw [hw] at hP hD
  exact kk h H1 locs1 ls hP hD hS hl
end RU3
end
section
theorem zOk.moved {D : DX} {A : Nat → Prop} {u U : State} {H : Heap} (hvm : u.vm.Alike U.vm) (h : zOk D A u H) : zOk D A U H := fun q hq => ⟨(h q hq).1.moved hvm, (h q hq).2.moved hvm⟩
theorem zOk.kept {D : DX} {A : Nat → Prop} {U : State} {H H1 : Heap} (h : zOk D A U H) (hk : ∀ a : Nat, a < H.size → ¬ A a → H1[a]? = H[a]?) : zOk D A U H1 := fun q hq => ⟨(h q hq).1.kept hk, (h q hq).2.kept hk⟩
theorem zOk.narrow {D : DX} {A B : Nat → Prop} {U : State} {H : Heap} (h : zOk D A U H) (hAB : ∀ q, B q → A q) : zOk D B U H := fun q hq => ⟨(h q hq).1.narrow hAB, (h q hq).2.narrow hAB⟩
theorem xOk.warm {s U : State} (hW : s.WarmedH U.vm) (h : xOk s) : xOk U := ⟨va_Nw.warmM hW h.1, va_AO.moved hW.alike h.2⟩
theorem cP_blind (D : DX) (av : List Value) (w : va_W) (sz : Nat) : FrameBlind (cP D av w sz) := by
  intro a U g mk q
  obtain ⟨q0, q1, qP, qK, qD, qZ, qX⟩ := q
  have al : U.vm.Alike (U.calling g mk a).vm := Vm.Alike.refl U.vm
  exact ⟨q0, q1, qP, va_K.moved (u := U) (U := U.calling g mk a) al qK, qD, zOk.moved (u := U) (U := U.calling g mk a) al qZ, va_Nw.same (u := U) (U := U.calling g mk a) rfl rfl qX.1, va_AO.moved (u := U) (U := U.calling g mk a) al qX.2⟩
/-- the words that a call needs -/
def CwB (own : String) (idx : Nat) (y : MethodName) (b : ByteArray) (n : Nat) (r : Option FieldType) (np : Nat) : Prop :=
  Cond.methodLink own idx y ∈ lw_g ∧ Cond.initialized y.cls ∈ lw_g ∧ Cond.code y b n r ∈ lw_g ∧ (y.cls ≠ "java/lang/invoke/MethodHandle" ∧ y.cls ≠ "java/lang/invoke/VarHandle" ∧ (parseMethodDescriptor y.desc).map (fun d => d.parameters.length) = some np)
def CwV (own : String) (idx : Nat) (y : MethodName) (b : ByteArray) (n : Nat) (r : Option FieldType) (np : Nat) : Prop := CwB own idx y b n r np ∧ Cond.instanceMethod y ∈ lw_g ∧ Cond.selects y.cls y y ∈ lw_g
def CwS (own : String) (idx : Nat) (y : MethodName) (b : ByteArray) (n : Nat) (r : Option FieldType) (np : Nat) : Prop := CwB own idx y b n r np ∧ Cond.static y ∈ lw_g
section CA1
variable {p : Program} {e : Env} {R : Room} {s : State} {m : MethodId} {args : Array Value} {below : List Frame} {meth : Method} {c : Code} {H : Heap} {locs : List Loc} {Q : State → Prop} {A : Nat → Prop} {D : DX}
theorem wsub {ws wc : va_W} {is : List Nat} (hP : va_P (dG D) classes ws H) (hC : is.map (fun i => ws[i]?) = wc.map some) : va_P (dG D) classes wc H := by
  intro k q hk
  obtain ⟨i, -, hi⟩ := wat hC k q hk
  exact hP i q hi
/-- what a callee may take as given -/
theorem pre_of {av : List Value} {ws wc : va_W} {is : List Nat} {y : MethodName} {cc : ByteArray} {nL : Nat} {ret : Option FieldType} (h : Ok D (p, e, s, m, args, below, meth, c, A) y cc nL ret) (hP : va_P (dG D) classes ws H) (hD : va_D A ws) (hS : va_S A s.heap H locs) (hC : is.map (fun i => ws[i]?) = wc.map some) (hn : va_nd is = true) (U : State) (hU : U.heap = H) (hW : s.WarmedH U.vm) : cP D av wc H.size av.toArray U := by
  obtain ⟨h1, h2, h3, h4, h5, h6, h7, h8, h9, h10, h11, h12⟩ := h
  refine ⟨rfl, by rw [hU], by rw [hU]; exact wsub hP hC, va_K.moved hW.alike h8, (hD.sub is hn hC).weaken (fun _ _ _ _ => trivial), ?_, h12.warm hW⟩
  rw [hU]
  exact ((h11.kept hS.2.1).narrow (va_free hD hS h9 is hC)).moved hW.alike
/-- behind a call that makes no cell: the callee's cells as they are now, all others as they were -/
theorem run_in {k n mc ms pc : Nat} {ls : Array Slot} {st0 rest : List Value} {a : Array Value} {ws wc : va_W} {is : List Nat} {finC : Option Value → va_W → Prop} (h9 : ∀ q, s.heap.size ≤ q → A q) (hP : va_P (dG D) classes ws H) (hD : va_D A ws) (hS : va_S A s.heap H locs) (hC : is.map (fun i => ws[i]?) = wc.map some) (hn : va_nd is = true)
    (hr : va_Run p (dl D) e R s m args below meth c H locs k n mc ms (F0 m pc ls st0) rest (cQ D finC (va_A wc H.size) a) (va_A wc H.size))
    (kk : ∀ (v : Option Value) (w1 : va_W), finC v w1 → w1.map Prod.fst = wc.map Prod.fst ∧ ∀ (H1 : Heap) (locs1 : List Loc), va_P (dG D) classes (updw ws is w1) H1 → va_D A (updw ws is w1) → va_S A s.heap H1 locs1 → W p (dl D) e R s m args below meth c H1 locs1 (k + mc) (n + ms) Q (F0 m (pc + 3) ls (v.toList ++ rest))) : W p (dl D) e R s m args below meth c H locs k n Q (F0 m pc ls st0) := by
  intro T hT X
  obtain ⟨v, st₀, t, T', L, h0, X', hL, e1, e2, ⟨⟨v', w1, hv, hfin, hP1, hD1⟩, hz, hk⟩, stp⟩ := hr T hT X
  cases hv
  rw [h0] at hz hk
  obtain ⟨ha, kk⟩ := kk v w1 hfin
  have hF := va_free hD hS h9 is hC
  have hlen : is.length = w1.length := by
    have g1 := congrArg List.length hC
    have g2 := congrArg List.length ha
    simp only [List.length_map] at g1 g2
    omega
  have hS' : va_S A s.heap T'.heap (locs ++ L) := ⟨Nat.le_trans hS.1 (by rw [e1]; exact hz), fun q h1 h2 => by rw [e1, hk q (Nat.lt_of_lt_of_le h1 hS.1) (fun z => h2 (hF q z))]; exact hS.2.1 q h1 h2, fun q hq => by
      rcases List.mem_append.mp hq with h | h
      · exact hS.2.2 q h
      · exact hF _ (hL q h)⟩
  have hP' : va_P (dG D) classes (updw ws is w1) T'.heap := by
    intro j q hq
    rw [e1]
    rcases updw_at is ws w1 j q hq hlen with ⟨i, h1, h2⟩ | ⟨h1, h2⟩
    · exact hP1 i q h2
    · refine (hP j q h2).kept (hk q.1 (hP j q h2).lt (fun hz => ?_))
      rcases hz with ⟨k2, e', h⟩ | h
      · obtain ⟨i, h3, h4⟩ := wat hC k2 (q.1, e') h
        have hij := hD.1 j i q (q.1, e') h2 h4 rfl
        subst hij
        exact h1 (List.mem_of_getElem? h3)
      · exact absurd (hP j q h2).lt (Nat.not_lt.mpr h)
  have hA' : (updw ws is w1).map Prod.fst = ws.map Prod.fst := by
    refine updw_addr is ws wc w1 ?_ ha
    have g := congrArg (List.map (Option.map Prod.fst)) hC
    simp only [List.map_map] at g
    rw [List.map_map]
    refine Eq.trans (List.map_congr_left (fun i _ => ?_)) (g.trans (List.map_congr_left (fun i _ => rfl)))
    simp [List.getElem?_map]
  obtain ⟨t2, a1, b1⟩ := kk T'.heap (locs ++ L) hP' (va_D_addr hD hA') hS' T' rfl X'
  exact ⟨t2, stp t2 a1, b1⟩
end CA1
section CA2
variable {D : DX} {Γ : GX} {y : MethodName} {cc : ByteArray} {nL : Nat} {ret : Option FieldType} {R : Room} {Q : State → Prop} {k n : Nat} {w : va_W} {pc : Nat} {lv : List (Nat × Value)} {st : List Value}
variable {y' : MethodName} {b' : ByteArray} {n' np idx : Nat} {r' : Option FieldType} {rm : Room} {a : Nat} {As rest : List Value} {wc : va_W} {finC : Option Value → va_W → Prop} {own : String}
theorem j_callV (hM : Ct D y' b' n' r' rm (.ref a :: As) wc finC) (hy : y.cls = own) (cw : CwV own idx y' b' n' r' np) (hnp : As.length = np) (hR : rm.frames + 1 ≤ R.frames ∧ 8 + (n' + 11) + rm.locals ≤ R.locals) (h0 : rm.cells = 0 ∧ rm.slots = 0) (hkn : k ≤ R.cells ∧ n ≤ R.slots) (hdg : decode cc pc = .ok (.invokevirtual idx, 3)) (hst : st = As.reverse ++ .ref a :: rest) (hcat : (rest.map fun v => v.category).sum ≤ 8)
    (is : List Nat) (hC : is.map (fun i => w[i]?) = wc.map some) (hn : va_nd is = true) (ci q0 : Nat) {fs : List Value} {rc : vw_C} (he : wc[q0]? = some (a, .inr (ci, fs))) (hcl : classes[ci]? = some rc) (hrc : rc.1 = y'.cls)
    (kk : ∀ (v : Option Value) (w1 : va_W), finC v w1 → w1.map Prod.fst = wc.map Prod.fst ∧ J D Γ y cc nL ret R Q k n (updw w is w1) (pc + 3) lv (v.toList ++ rest)) : J D Γ y cc nL ret R Q k n w pc lv st := by
  subst hst
  subst hy
  obtain ⟨p, e, s, m, args, below, meth, c, A⟩ := Γ
  intro h H locs ls hP hD hS hl
  obtain ⟨⟨c1, c2, c3, c4⟩, c5, c6⟩ := cw
  have ht := h.2.2.2.2.2.1
  have hB : CallB R s args y.cls idx y' b' n' r' (.code y' b' n' r' :: lw_g) rm rm.cells rm.slots np := callB_of np ht (gd_c c3) rfl rfl rfl (ht _ c2) (ht _ c1) c4 hR
  refine run_in h.2.2.2.2.2.2.2.2.1 hP hD hS hC hn (va_runV (As := As) (rest := rest) ⟨h.1, h.2.1, h.2.2.2.1, h.2.2.2.2.1, ht⟩ (hM H.size) ⟨hB, ht _ c5, ht _ c6⟩ ⟨cP_blind _ _ _ _, ?_, fun U hU hW => pre_of h hP hD hS hC hn U hU hW⟩ rfl hnp hl.1 rfl (lv_room hcat) hdg ⟨by rw [h0.1]; exact hkn.1, by rw [h0.2]; exact hkn.2⟩) (fun v w1 hf => ?_)
  · rw [← hrc]
    exact va_recv h.2.2.2.2.2.2.2.1 (wsub hP hC) hcl he
  · obtain ⟨g1, g2⟩ := kk v w1 hf
    refine ⟨g1, fun H1 locs1 hP1 hD1 hS1 => ?_⟩
    rw [h0.1, h0.2]
    exact g2 h H1 locs1 ls hP1 hD1 hS1 hl
theorem j_callS (hM : Ct D y' b' n' r' rm As wc finC) (hy : y.cls = own) (cw : CwS own idx y' b' n' r' np) (hnp : As.length = np) (hR : rm.frames + 1 ≤ R.frames ∧ 8 + (n' + 11) + rm.locals ≤ R.locals) (h0 : rm.cells = 0 ∧ rm.slots = 0) (hkn : k ≤ R.cells ∧ n ≤ R.slots) (hdg : decode cc pc = .ok (.invokestatic idx, 3)) (hst : st = As.reverse ++ rest) (hcat : (rest.map fun v => v.category).sum ≤ 8)
    (is : List Nat) (hC : is.map (fun i => w[i]?) = wc.map some) (hn : va_nd is = true)
    (kk : ∀ (v : Option Value) (w1 : va_W), finC v w1 → w1.map Prod.fst = wc.map Prod.fst ∧ J D Γ y cc nL ret R Q k n (updw w is w1) (pc + 3) lv (v.toList ++ rest)) : J D Γ y cc nL ret R Q k n w pc lv st := by
  subst hst
  subst hy
  obtain ⟨p, e, s, m, args, below, meth, c, A⟩ := Γ
  intro h H locs ls hP hD hS hl
  obtain ⟨⟨c1, c2, c3, c4⟩, c5⟩ := cw
  have ht := h.2.2.2.2.2.1
  have hB : CallB R s args y.cls idx y' b' n' r' (.code y' b' n' r' :: lw_g) rm rm.cells rm.slots np := callB_of np ht (gd_c c3) rfl rfl rfl (ht _ c2) (ht _ c1) c4 hR
  refine run_in h.2.2.2.2.2.2.2.2.1 hP hD hS hC hn (va_runS (As := As) (rest := rest) ⟨h.1, h.2.1, h.2.2.2.1, h.2.2.2.2.1, ht⟩ (hM H.size) ⟨hB, ht _ c5⟩ ⟨cP_blind _ _ _ _, fun U hU hW => pre_of h hP hD hS hC hn U hU hW⟩ rfl hnp hl.1 rfl (lv_room hcat) hdg ⟨by rw [h0.1]; exact hkn.1, by rw [h0.2]; exact hkn.2⟩) (fun v w1 hf => ?_)
  obtain ⟨g1, g2⟩ := kk v w1 hf
  refine ⟨g1, fun H1 locs1 hP1 hD1 hS1 => ?_⟩
  rw [h0.1, h0.2]
  exact g2 h H1 locs1 ls hP1 hD1 hS1 hl
/-- the one call of a private method of a nest mate -/
theorem j_callN {rm : Room} (hM : Ct D yX4_within cX4_within 3 (some .boolean) rm As wc finC) (hy : y.cls = RX3) (hnp : As.length = 3) (hR : rm.frames + 1 ≤ R.frames ∧ 8 + (3 + 11) + rm.locals ≤ R.locals) (h0 : rm.cells = 0 ∧ rm.slots = 0) (hkn : k ≤ R.cells ∧ n ≤ R.slots) (hdg : decode cc pc = .ok (.invokestatic 66, 3)) (hst : st = As.reverse ++ rest) (hcat : (rest.map fun v => v.category).sum ≤ 8)
    (is : List Nat) (hC : is.map (fun i => w[i]?) = wc.map some) (hn : va_nd is = true)
    (kk : ∀ (v : Option Value) (w1 : va_W), finC v w1 → w1.map Prod.fst = wc.map Prod.fst ∧ J D Γ y cc nL ret R Q k n (updw w is w1) (pc + 3) lv (v.toList ++ rest)) : J D Γ y cc nL ret R Q k n w pc lv st := by
  subst hst
  obtain ⟨p, e, s, m, args, below, meth, c, A⟩ := Γ
  intro h H locs ls hP hD hS hl
  have ht := h.2.2.2.2.2.1
  have hB : va_CN R s args RX3 66 yX4_within RX4 cX4_within 3 (some .boolean) (.code yX4_within cX4_within 3 (some .boolean) :: lw_g) rm rm.cells rm.slots 3 := va_cnB 3 ht (gd_c m_co_X4_within) rfl rfl rfl h.2.2.2.2.2.2.2.2.2.2.2.1 (ht _ m_in_X4) (by decide +kernel) hR
  have h5 := h.2.2.2.2.1
  rw [hy] at h5
  refine run_in h.2.2.2.2.2.2.2.2.1 hP hD hS hC hn (va_runSN (As := As) (rest := rest) ⟨h.1, h.2.1, h.2.2.2.1, h5, ht⟩ (hM H.size) ⟨hB, ht _ m_st_X4_within, trivial⟩ ⟨cP_blind _ _ _ _, fun U hU hW => pre_of h hP hD hS hC hn U hU hW⟩ rfl hnp hl.1 rfl (lv_room hcat) hdg ⟨by rw [h0.1]; exact hkn.1, by rw [h0.2]; exact hkn.2⟩) (fun v w1 hf => ?_)
  obtain ⟨g1, g2⟩ := kk v w1 hf
  refine ⟨g1, fun H1 locs1 hP1 hD1 hS1 => ?_⟩
  rw [h0.1, h0.2]
  exact g2 h H1 locs1 ls hP1 hD1 hS1 hl
end CA2
/-- a contract that tells just what is answered and what the world is then -/
abbrev Cd (D : DX) (y : MethodName) (b : ByteArray) (n : Nat) (r : Option FieldType) (rm : Room) (av : List Value) (w : va_W) (rv : Option Value) (w' : va_W) : Prop := Ct D y b n r rm av w (fun v u => v = rv ∧ u = w')
section CA3
variable {D : DX} {Γ : GX} {y : MethodName} {cc : ByteArray} {nL : Nat} {ret : Option FieldType} {R : Room} {Q : State → Prop} {k n : Nat} {w : va_W} {pc : Nat} {lv : List (Nat × Value)} {st : List Value}
variable {y' : MethodName} {b' : ByteArray} {n' np idx : Nat} {r' : Option FieldType} {rm : Room} {a : Nat} {As : List Value} {wc w1 w2 : va_W} {rv : Option Value} {own : String} {st2 : List Value}
theorem j_V (hM : Cd D y' b' n' r' rm (.ref a :: As) wc rv w1) (hy : y.cls = own) (cw : CwV own idx y' b' n' r' np) (hdg : decode cc pc = .ok (.invokevirtual idx, 3)) (rest : List Value) (hst : st = As.reverse ++ .ref a :: rest) (is : List Nat) (hC : is.map (fun i => w[i]?) = wc.map some) (hw : updw w is w1 = w2) (hst2 : rv.toList ++ rest = st2) (ci : Nat)
    (kk : J D Γ y cc nL ret R Q k n w2 (pc + 3) lv st2) (hsd : As.length = np ∧ (rm.frames + 1 ≤ R.frames ∧ 8 + (n' + 11) + rm.locals ≤ R.locals) ∧ (rm.cells = 0 ∧ rm.slots = 0) ∧ (k ≤ R.cells ∧ n ≤ R.slots) ∧ (rest.map fun v => v.category).sum ≤ 8 ∧ va_nd is = true ∧ w1.map Prod.fst = wc.map Prod.fst) {fs : List Value} (he : wc[0]? = some (a, .inr (ci, fs))) {rc : vw_C} (hcl : classes[ci]? = some rc) (hrc : rc.1 = y'.cls) : J D Γ y cc nL ret R Q k n w pc lv st := by
  obtain ⟨s1, s2, s3, s4, s5, s6, s7⟩ := hsd
  refine j_callV hM hy cw s1 s2 s3 s4 hdg hst s5 is hC s6 ci 0 he hcl hrc (fun v u hf => ?_)
  obtain ⟨rfl, rfl⟩ := hf
  exact ⟨s7, by rw [hw, hst2]; exact kk⟩
theorem j_S (hM : Cd D y' b' n' r' rm As wc rv w1) (hy : y.cls = own) (cw : CwS own idx y' b' n' r' np) (hdg : decode cc pc = .ok (.invokestatic idx, 3)) (rest : List Value) (hst : st = As.reverse ++ rest) (is : List Nat) (hC : is.map (fun i => w[i]?) = wc.map some) (hw : updw w is w1 = w2) (hst2 : rv.toList ++ rest = st2)
    (kk : J D Γ y cc nL ret R Q k n w2 (pc + 3) lv st2) (hsd : As.length = np ∧ (rm.frames + 1 ≤ R.frames ∧ 8 + (n' + 11) + rm.locals ≤ R.locals) ∧ (rm.cells = 0 ∧ rm.slots = 0) ∧ (k ≤ R.cells ∧ n ≤ R.slots) ∧ (rest.map fun v => v.category).sum ≤ 8 ∧ va_nd is = true ∧ w1.map Prod.fst = wc.map Prod.fst) : J D Γ y cc nL ret R Q k n w pc lv st := by
  obtain ⟨s1, s2, s3, s4, s5, s6, s7⟩ := hsd
  refine j_callS hM hy cw s1 s2 s3 s4 hdg hst s5 is hC s6 (fun v u hf => ?_)
  obtain ⟨rfl, rfl⟩ := hf
  exact ⟨s7, by rw [hw, hst2]; exact kk⟩
theorem j_N (hM : Cd D yX4_within cX4_within 3 (some .boolean) rm As wc rv w1) (hy : y.cls = RX3) (hdg : decode cc pc = .ok (.invokestatic 66, 3)) (rest : List Value) (hst : st = As.reverse ++ rest) (is : List Nat) (hC : is.map (fun i => w[i]?) = wc.map some) (hw : updw w is w1 = w2) (hst2 : rv.toList ++ rest = st2)
    (kk : J D Γ y cc nL ret R Q k n w2 (pc + 3) lv st2) (hsd : As.length = 3 ∧ (rm.frames + 1 ≤ R.frames ∧ 8 + (3 + 11) + rm.locals ≤ R.locals) ∧ (rm.cells = 0 ∧ rm.slots = 0) ∧ (k ≤ R.cells ∧ n ≤ R.slots) ∧ (rest.map fun v => v.category).sum ≤ 8 ∧ va_nd is = true ∧ w1.map Prod.fst = wc.map Prod.fst) : J D Γ y cc nL ret R Q k n w pc lv st := by
  obtain ⟨s1, s2, s3, s4, s5, s6, s7⟩ := hsd
  refine j_callN hM hy s1 s2 s3 s4 hdg hst s5 is hC s6 (fun v u hf => ?_)
  obtain ⟨rfl, rfl⟩ := hf
  exact ⟨s7, by rw [hw, hst2]; exact kk⟩
end CA3

theorem cw_L_13 : CwV RL 13 yX4_type cX4_type 2 (some .int) 1 := ⟨⟨m_ml_L_13, m_in_X4, m_co_X4_type, by decide +kernel⟩, m_im_X4_type, m_se_X4_type⟩
theorem cw_L_17 : CwV RL 17 yX5_type cX5_type 2 (some .int) 1 := ⟨⟨m_ml_L_17, m_in_X5, m_co_X5_type, by decide +kernel⟩, m_im_X5_type, m_se_X5_type⟩
theorem cw_L_18 : CwV RL 18 yX4_clear cX4_clear 2 (some .int) 0 := ⟨⟨m_ml_L_18, m_in_X4, m_co_X4_clear, by decide +kernel⟩, m_im_X4_clear, m_se_X4_clear⟩
theorem cw_L_22 : CwV RL 22 yX5_clear cX5_clear 2 (some .int) 0 := ⟨⟨m_ml_L_22, m_in_X5, m_co_X5_clear, by decide +kernel⟩, m_im_X5_clear, m_se_X5_clear⟩
theorem cw_L_23 : CwV RL 23 yX4_posts cX4_posts 3 (some .int) 0 := ⟨⟨m_ml_L_23, m_in_X4, m_co_X4_posts, by decide +kernel⟩, m_im_X4_posts, m_se_X4_posts⟩
theorem cw_L_26 : CwV RL 26 yX5_posts cX5_posts 1 (some .int) 0 := ⟨⟨m_ml_L_26, m_in_X5, m_co_X5_posts, by decide +kernel⟩, m_im_X5_posts, m_se_X5_posts⟩
theorem cw_L_27 : CwV RL 27 yX4_ticks cX4_ticks 4 (some .int) 1 := ⟨⟨m_ml_L_27, m_in_X4, m_co_X4_ticks, by decide +kernel⟩, m_im_X4_ticks, m_se_X4_ticks⟩
theorem cw_L_30 : CwV RL 30 yX5_ticks cX5_ticks 4 (some .int) 1 := ⟨⟨m_ml_L_30, m_in_X5, m_co_X5_ticks, by decide +kernel⟩, m_im_X5_ticks, m_se_X5_ticks⟩
theorem cw_L_31 : CwV RL 31 yX4_cancels cX4_cancels 2 (some .int) 1 := ⟨⟨m_ml_L_31, m_in_X4, m_co_X4_cancels, by decide +kernel⟩, m_im_X4_cancels, m_se_X4_cancels⟩
theorem cw_L_34 : CwV RL 34 yX5_cancels cX5_cancels 6 (some .int) 1 := ⟨⟨m_ml_L_34, m_in_X5, m_co_X5_cancels, by decide +kernel⟩, m_im_X5_cancels, m_se_X5_cancels⟩
theorem cw_L_35 : CwV RL 35 yX4_switches cX4_switches 3 (some .int) 1 := ⟨⟨m_ml_L_35, m_in_X4, m_co_X4_switches, by decide +kernel⟩, m_im_X4_switches, m_se_X4_switches⟩
theorem cw_L_38 : CwV RL 38 yX5_switches cX5_switches 3 (some .int) 1 := ⟨⟨m_ml_L_38, m_in_X5, m_co_X5_switches, by decide +kernel⟩, m_im_X5_switches, m_se_X5_switches⟩
theorem cw_L_39 : CwV RL 39 yX4_tunes cX4_tunes 4 (some .int) 3 := ⟨⟨m_ml_L_39, m_in_X4, m_co_X4_tunes, by decide +kernel⟩, m_im_X4_tunes, m_se_X4_tunes⟩
theorem cw_L_43 : CwV RL 43 yX5_tunes cX5_tunes 5 (some .int) 3 := ⟨⟨m_ml_L_43, m_in_X5, m_co_X5_tunes, by decide +kernel⟩, m_im_X5_tunes, m_se_X5_tunes⟩
theorem cw_L_44 : CwV RL 44 yX4_undo cX4_undo 1 (some .int) 0 := ⟨⟨m_ml_L_44, m_in_X4, m_co_X4_undo, by decide +kernel⟩, m_im_X4_undo, m_se_X4_undo⟩
theorem cw_L_47 : CwV RL 47 yX5_undo cX5_undo 2 (some .int) 0 := ⟨⟨m_ml_L_47, m_in_X5, m_co_X5_undo, by decide +kernel⟩, m_im_X5_undo, m_se_X5_undo⟩
theorem cw_L_48 : CwV RL 48 yX4_at cX4_at 2 (some .int) 1 := ⟨⟨m_ml_L_48, m_in_X4, m_co_X4_at, by decide +kernel⟩, m_im_X4_at, m_se_X4_at⟩
theorem cw_L_51 : CwV RL 51 yX5_at cX5_at 2 (some .int) 1 := ⟨⟨m_ml_L_51, m_in_X5, m_co_X5_at, by decide +kernel⟩, m_im_X5_at, m_se_X5_at⟩
theorem cw_L_52 : CwV RL 52 yX4_channel cX4_channel 3 (some .int) 2 := ⟨⟨m_ml_L_52, m_in_X4, m_co_X4_channel, by decide +kernel⟩, m_im_X4_channel, m_se_X4_channel⟩
theorem cw_L_56 : CwV RL 56 yX5_channel cX5_channel 4 (some .int) 2 := ⟨⟨m_ml_L_56, m_in_X5, m_co_X5_channel, by decide +kernel⟩, m_im_X5_channel, m_se_X5_channel⟩
theorem cw_L_57 : CwV RL 57 yX4_slot cX4_slot 5 (some .int) 3 := ⟨⟨m_ml_L_57, m_in_X4, m_co_X4_slot, by decide +kernel⟩, m_im_X4_slot, m_se_X4_slot⟩
theorem cw_L_60 : CwV RL 60 yX5_slot cX5_slot 5 (some .int) 3 := ⟨⟨m_ml_L_60, m_in_X5, m_co_X5_slot, by decide +kernel⟩, m_im_X5_slot, m_se_X5_slot⟩
theorem cw_L_61 : CwV RL 61 yX4_unit cX4_unit 6 (some .int) 4 := ⟨⟨m_ml_L_61, m_in_X4, m_co_X4_unit, by decide +kernel⟩, m_im_X4_unit, m_se_X4_unit⟩
theorem cw_L_65 : CwV RL 65 yX5_unit cX5_unit 6 (some .int) 4 := ⟨⟨m_ml_L_65, m_in_X5, m_co_X5_unit, by decide +kernel⟩, m_im_X5_unit, m_se_X5_unit⟩
theorem cw_L_66 : CwV RL 66 yX4_waiting cX4_waiting 3 (some .int) 1 := ⟨⟨m_ml_L_66, m_in_X4, m_co_X4_waiting, by decide +kernel⟩, m_im_X4_waiting, m_se_X4_waiting⟩
theorem cw_L_69 : CwV RL 69 yX5_waiting cX5_waiting 2 (some .int) 1 := ⟨⟨m_ml_L_69, m_in_X5, m_co_X5_waiting, by decide +kernel⟩, m_im_X5_waiting, m_se_X5_waiting⟩
theorem cw_L_70 : CwV RL 70 yX4_both cX4_both 7 (some .int) 4 := ⟨⟨m_ml_L_70, m_in_X4, m_co_X4_both, by decide +kernel⟩, m_im_X4_both, m_se_X4_both⟩
theorem cw_L_73 : CwV RL 73 yX5_both cX5_both 11 (some .int) 4 := ⟨⟨m_ml_L_73, m_in_X5, m_co_X5_both, by decide +kernel⟩, m_im_X5_both, m_se_X5_both⟩
theorem cw_L_74 : CwV RL 74 yX4_over cX4_over 2 (some .int) 1 := ⟨⟨m_ml_L_74, m_in_X4, m_co_X4_over, by decide +kernel⟩, m_im_X4_over, m_se_X4_over⟩
theorem cw_L_77 : CwV RL 77 yX5_over cX5_over 3 (some .int) 1 := ⟨⟨m_ml_L_77, m_in_X5, m_co_X5_over, by decide +kernel⟩, m_im_X5_over, m_se_X5_over⟩
theorem cw_L_78 : CwV RL 78 yX4_lands cX4_lands 2 (some .int) 1 := ⟨⟨m_ml_L_78, m_in_X4, m_co_X4_lands, by decide +kernel⟩, m_im_X4_lands, m_se_X4_lands⟩
theorem cw_L_81 : CwV RL 81 yX5_lands cX5_lands 6 (some .int) 1 := ⟨⟨m_ml_L_81, m_in_X5, m_co_X5_lands, by decide +kernel⟩, m_im_X5_lands, m_se_X5_lands⟩
theorem cw_L_82 : CwV RL 82 yX4_enough cX4_enough 4 (some .int) 2 := ⟨⟨m_ml_L_82, m_in_X4, m_co_X4_enough, by decide +kernel⟩, m_im_X4_enough, m_se_X4_enough⟩
theorem cw_L_85 : CwV RL 85 yX5_enough cX5_enough 6 (some .int) 2 := ⟨⟨m_ml_L_85, m_in_X5, m_co_X5_enough, by decide +kernel⟩, m_im_X5_enough, m_se_X5_enough⟩
theorem cw_L_86 : CwV RL 86 yX4_granted cX4_granted 3 (some .int) 1 := ⟨⟨m_ml_L_86, m_in_X4, m_co_X4_granted, by decide +kernel⟩, m_im_X4_granted, m_se_X4_granted⟩
theorem cw_L_89 : CwV RL 89 yX5_granted cX5_granted 4 (some .int) 1 := ⟨⟨m_ml_L_89, m_in_X5, m_co_X5_granted, by decide +kernel⟩, m_im_X5_granted, m_se_X5_granted⟩
theorem cw_L_90 : CwV RL 90 yX4_sees cX4_sees 3 (some .int) 2 := ⟨⟨m_ml_L_90, m_in_X4, m_co_X4_sees, by decide +kernel⟩, m_im_X4_sees, m_se_X4_sees⟩
theorem cw_L_93 : CwV RL 93 yX5_sees cX5_sees 3 (some .int) 2 := ⟨⟨m_ml_L_93, m_in_X5, m_co_X5_sees, by decide +kernel⟩, m_im_X5_sees, m_se_X5_sees⟩
theorem cw_L_94 : CwV RL 94 yX4_forget cX4_forget 2 (some .int) 0 := ⟨⟨m_ml_L_94, m_in_X4, m_co_X4_forget, by decide +kernel⟩, m_im_X4_forget, m_se_X4_forget⟩
theorem cw_L_97 : CwV RL 97 yX5_forget cX5_forget 2 (some .int) 0 := ⟨⟨m_ml_L_97, m_in_X5, m_co_X5_forget, by decide +kernel⟩, m_im_X5_forget, m_se_X5_forget⟩
theorem cw_L_98 : CwV RL 98 yX4_ranks cX4_ranks 4 (some .int) 1 := ⟨⟨m_ml_L_98, m_in_X4, m_co_X4_ranks, by decide +kernel⟩, m_im_X4_ranks, m_se_X4_ranks⟩
theorem cw_L_101 : CwV RL 101 yX5_ranks cX5_ranks 4 (some .int) 1 := ⟨⟨m_ml_L_101, m_in_X5, m_co_X5_ranks, by decide +kernel⟩, m_im_X5_ranks, m_se_X5_ranks⟩
theorem cw_L_102 : CwV RL 102 yX4_keep cX4_keep 2 (some .int) 1 := ⟨⟨m_ml_L_102, m_in_X4, m_co_X4_keep, by decide +kernel⟩, m_im_X4_keep, m_se_X4_keep⟩
theorem cw_L_105 : CwV RL 105 yX5_keep cX5_keep 3 (some .int) 1 := ⟨⟨m_ml_L_105, m_in_X5, m_co_X5_keep, by decide +kernel⟩, m_im_X5_keep, m_se_X5_keep⟩
theorem cw_L_106 : CwV RL 106 yX4_back cX4_back 2 (some .int) 1 := ⟨⟨m_ml_L_106, m_in_X4, m_co_X4_back, by decide +kernel⟩, m_im_X4_back, m_se_X4_back⟩
theorem cw_L_109 : CwV RL 109 yX5_back cX5_back 3 (some .int) 1 := ⟨⟨m_ml_L_109, m_in_X5, m_co_X5_back, by decide +kernel⟩, m_im_X5_back, m_se_X5_back⟩
theorem cw_L_110 : CwV RL 110 yX4_count cX4_count 2 (some .int) 1 := ⟨⟨m_ml_L_110, m_in_X4, m_co_X4_count, by decide +kernel⟩, m_im_X4_count, m_se_X4_count⟩
theorem cw_L_113 : CwV RL 113 yX5_count cX5_count 2 (some .int) 1 := ⟨⟨m_ml_L_113, m_in_X5, m_co_X5_count, by decide +kernel⟩, m_im_X5_count, m_se_X5_count⟩
theorem cw_X0_40 : CwV RX0 40 yX0_ofLetter cX0_ofLetter 3 (some .int) 2 := ⟨⟨m_ml_X0_40, m_in_X0, m_co_X0_ofLetter, by decide +kernel⟩, m_im_X0_ofLetter, m_se_X0_ofLetter⟩
theorem cw_X0_44 : CwS RX0 44 yJ9_floorMod_7cf53 cJ9_floorMod_7cf53 3 (some .int) 2 := ⟨⟨m_ml_X0_44, m_in_J9, m_co_J9_floorMod_7cf53, by decide +kernel⟩, m_st_J9_floorMod_7cf53⟩
theorem cw_X0_49 : CwV RX0 49 yX0_unitsOf cX0_unitsOf 2 (some .int) 1 := ⟨⟨m_ml_X0_49, m_in_X0, m_co_X0_unitsOf, by decide +kernel⟩, m_im_X0_unitsOf, m_se_X0_unitsOf⟩
theorem cw_X0_53 : CwV RX0 53 yX0_addressOf cX0_addressOf 8 (some .int) 3 := ⟨⟨m_ml_X0_53, m_in_X0, m_co_X0_addressOf, by decide +kernel⟩, m_im_X0_addressOf, m_se_X0_addressOf⟩
theorem cw_X0_57 : CwV RX0 57 yX0_isToCarry cX0_isToCarry 3 (some .boolean) 1 := ⟨⟨m_ml_X0_57, m_in_X0, m_co_X0_isToCarry, by decide +kernel⟩, m_im_X0_isToCarry, m_se_X0_isToCarry⟩
theorem cw_X0_61 : CwV RX0 61 yX0_uncarriedBoundFor cX0_uncarriedBoundFor 6 (some .int) 2 := ⟨⟨m_ml_X0_61, m_in_X0, m_co_X0_uncarriedBoundFor, by decide +kernel⟩, m_im_X0_uncarriedBoundFor, m_se_X0_uncarriedBoundFor⟩
theorem cw_X0_64 : CwS RX0 64 yX0_placeOf cX0_placeOf 2 (some .int) 2 := ⟨⟨m_ml_X0_64, m_in_X0, m_co_X0_placeOf, by decide +kernel⟩, m_st_X0_placeOf⟩
theorem cw_X0_67 : CwV RX0 67 yX0_isEngines cX0_isEngines 2 (some .boolean) 1 := ⟨⟨m_ml_X0_67, m_in_X0, m_co_X0_isEngines, by decide +kernel⟩, m_im_X0_isEngines, m_se_X0_isEngines⟩
theorem cw_X0_70 : CwV RX0 70 yX0_engineLettersOf cX0_engineLettersOf 4 (some .int) 1 := ⟨⟨m_ml_X0_70, m_in_X0, m_co_X0_engineLettersOf, by decide +kernel⟩, m_im_X0_engineLettersOf, m_se_X0_engineLettersOf⟩
theorem cw_X0_73 : CwV RX0 73 yX0_ofChannel cX0_ofChannel 3 (some .int) 2 := ⟨⟨m_ml_X0_73, m_in_X0, m_co_X0_ofChannel, by decide +kernel⟩, m_im_X0_ofChannel, m_se_X0_ofChannel⟩
theorem cw_X0_76 : CwV RX0 76 yX0_presentOf cX0_presentOf 3 (some .int) 1 := ⟨⟨m_ml_X0_76, m_in_X0, m_co_X0_presentOf, by decide +kernel⟩, m_im_X0_presentOf, m_se_X0_presentOf⟩
theorem cw_X0_79 : CwV RX0 79 yX3_number cX3_number 3 (some .int) 2 := ⟨⟨m_ml_X0_79, m_in_X3, m_co_X3_number, by decide +kernel⟩, m_im_X3_number, m_se_X3_number⟩
theorem cw_X0_84 : CwV RX0 84 yX3_kind cX3_kind 2 (some .int) 1 := ⟨⟨m_ml_X0_84, m_in_X3, m_co_X3_kind, by decide +kernel⟩, m_im_X3_kind, m_se_X3_kind⟩
theorem cw_X0_87 : CwV RX0 87 yX0_post cX0_post 7 (some .boolean) 3 := ⟨⟨m_ml_X0_87, m_in_X0, m_co_X0_post, by decide +kernel⟩, m_im_X0_post, m_se_X0_post⟩
theorem cw_X0_91 : CwV RX0 91 yX0_setChannel cX0_setChannel 4 none 3 := ⟨⟨m_ml_X0_91, m_in_X0, m_co_X0_setChannel, by decide +kernel⟩, m_im_X0_setChannel, m_se_X0_setChannel⟩
theorem cw_X0_95 : CwV RX0 95 yX0_setLetter cX0_setLetter 4 none 3 := ⟨⟨m_ml_X0_95, m_in_X0, m_co_X0_setLetter, by decide +kernel⟩, m_im_X0_setLetter, m_se_X0_setLetter⟩
theorem cw_X0_98 : CwS RX0 98 yX0_slotBehind cX0_slotBehind 1 (some .int) 1 := ⟨⟨m_ml_X0_98, m_in_X0, m_co_X0_slotBehind, by decide +kernel⟩, m_st_X0_slotBehind⟩
theorem cw_X0_101 : CwV RX0 101 yX0_writeBack cX0_writeBack 4 none 1 := ⟨⟨m_ml_X0_101, m_in_X0, m_co_X0_writeBack, by decide +kernel⟩, m_im_X0_writeBack, m_se_X0_writeBack⟩
theorem cw_X0_105 : CwV RX0 105 yX0_nextToGrant cX0_nextToGrant 4 (some .int) 0 := ⟨⟨m_ml_X0_105, m_in_X0, m_co_X0_nextToGrant, by decide +kernel⟩, m_im_X0_nextToGrant, m_se_X0_nextToGrant⟩
theorem cw_X0_109 : CwV RX0 109 yX0_grant cX0_grant 6 none 2 := ⟨⟨m_ml_X0_109, m_in_X0, m_co_X0_grant, by decide +kernel⟩, m_im_X0_grant, m_se_X0_grant⟩
theorem cw_X0_113 : CwV RX0 113 yX0_addOneTo cX0_addOneTo 3 none 2 := ⟨⟨m_ml_X0_113, m_in_X0, m_co_X0_addOneTo, by decide +kernel⟩, m_im_X0_addOneTo, m_se_X0_addOneTo⟩
theorem cw_X0_117 : CwV RX0 117 yX0_isReady cX0_isReady 3 (some .boolean) 1 := ⟨⟨m_ml_X0_117, m_in_X0, m_co_X0_isReady, by decide +kernel⟩, m_im_X0_isReady, m_se_X0_isReady⟩
theorem cw_X0_120 : CwS RX0 120 yJ9_min_7cf53 cJ9_min_7cf53 2 (some .int) 2 := ⟨⟨m_ml_X0_120, m_in_J9, m_co_J9_min_7cf53, by decide +kernel⟩, m_st_J9_min_7cf53⟩
theorem cw_X0_123 : CwV RX0 123 yX0_carry cX0_carry 5 none 3 := ⟨⟨m_ml_X0_123, m_in_X0, m_co_X0_carry, by decide +kernel⟩, m_im_X0_carry, m_se_X0_carry⟩
theorem cw_X0_126 : CwV RX0 126 yX0_letWait cX0_letWait 3 none 2 := ⟨⟨m_ml_X0_126, m_in_X0, m_co_X0_letWait, by decide +kernel⟩, m_im_X0_letWait, m_se_X0_letWait⟩
theorem cw_X0_129 : CwV RX0 129 yX0_writeBackAllOf cX0_writeBackAllOf 4 none 1 := ⟨⟨m_ml_X0_129, m_in_X0, m_co_X0_writeBackAllOf, by decide +kernel⟩, m_im_X0_writeBackAllOf, m_se_X0_writeBackAllOf⟩
theorem cw_X1_23 : CwV RX1 23 yX0_copyFrom cX0_copyFrom 2 none 1 := ⟨⟨m_ml_X1_23, m_in_X0, m_co_X0_copyFrom, by decide +kernel⟩, m_im_X0_copyFrom, m_se_X0_copyFrom⟩
theorem cw_X1_27 : CwS RX1 27 yJ9_min_7cf53 cJ9_min_7cf53 2 (some .int) 2 := ⟨⟨m_ml_X1_27, m_in_J9, m_co_J9_min_7cf53, by decide +kernel⟩, m_st_J9_min_7cf53⟩
theorem cw_X2_20 : CwV RX2 20 yX2_lastTick cX2_lastTick 3 (some .int) 0 := ⟨⟨m_ml_X2_20, m_in_X2, m_co_X2_lastTick, by decide +kernel⟩, m_im_X2_lastTick, m_se_X2_lastTick⟩
theorem cw_X2_24 : CwV RX2 24 yX0_tick cX0_tick 3 (some .int) 1 := ⟨⟨m_ml_X2_24, m_in_X0, m_co_X0_tick, by decide +kernel⟩, m_im_X0_tick, m_se_X0_tick⟩
theorem cw_X2_30 : CwV RX2 30 yX2_allowsInTick cX2_allowsInTick 4 (some .boolean) 2 := ⟨⟨m_ml_X2_30, m_in_X2, m_co_X2_allowsInTick, by decide +kernel⟩, m_im_X2_allowsInTick, m_se_X2_allowsInTick⟩
theorem cw_X2_34 : CwS RX2 34 yJ9_max_7cf53 cJ9_max_7cf53 2 (some .int) 2 := ⟨⟨m_ml_X2_34, m_in_J9, m_co_J9_max_7cf53, by decide +kernel⟩, m_st_J9_max_7cf53⟩
theorem cw_X3_29 : CwV RX3 29 yX3_skipBlanks cX3_skipBlanks 1 none 0 := ⟨⟨m_ml_X3_29, m_in_X3, m_co_X3_skipBlanks, by decide +kernel⟩, m_im_X3_skipBlanks, m_se_X3_skipBlanks⟩
theorem cw_X3_32 : CwV RX3 32 yX3_readItem cX3_readItem 2 (some .boolean) 0 := ⟨⟨m_ml_X3_32, m_in_X3, m_co_X3_readItem, by decide +kernel⟩, m_im_X3_readItem, m_se_X3_readItem⟩
theorem cw_X3_42 : CwV RX3 42 yX3_readForm cX3_readForm 5 (some .boolean) 3 := ⟨⟨m_ml_X3_42, m_in_X3, m_co_X3_readForm, by decide +kernel⟩, m_im_X3_readForm, m_se_X3_readForm⟩
theorem cw_X3_58 : CwV RX3 58 yX3_readNumber cX3_readNumber 8 (some .boolean) 3 := ⟨⟨m_ml_X3_58, m_in_X3, m_co_X3_readNumber, by decide +kernel⟩, m_im_X3_readNumber, m_se_X3_readNumber⟩
theorem cw_X3_62 : CwS RX3 62 yX3_isFigure cX3_isFigure 1 (some .boolean) 1 := ⟨⟨m_ml_X3_62, m_in_X3, m_co_X3_isFigure, by decide +kernel⟩, m_st_X3_isFigure⟩
theorem cw_X4_48 : CwS RX4 48 yX4_within cX4_within 3 (some .boolean) 3 := ⟨⟨m_ml_X4_48, m_in_X4, m_co_X4_within, by decide +kernel⟩, m_st_X4_within⟩
theorem cw_X4_52 : CwV RX4 52 yX3_append cX3_append 2 (some .boolean) 1 := ⟨⟨m_ml_X4_52, m_in_X3, m_co_X3_append, by decide +kernel⟩, m_im_X3_append, m_se_X3_append⟩
theorem cw_X4_60 : CwV RX4 60 yX3_wipe cX3_wipe 1 none 0 := ⟨⟨m_ml_X4_60, m_in_X3, m_co_X3_wipe, by decide +kernel⟩, m_im_X3_wipe, m_se_X3_wipe⟩
theorem cw_X4_63 : CwV RX4 63 yX3_read cX3_read 1 (some .int) 0 := ⟨⟨m_ml_X4_63, m_in_X3, m_co_X3_read, by decide +kernel⟩, m_im_X3_read, m_se_X3_read⟩
theorem cw_X4_67 : CwV RX4 67 yX0_copyFrom cX0_copyFrom 2 none 1 := ⟨⟨m_ml_X4_67, m_in_X0, m_co_X0_copyFrom, by decide +kernel⟩, m_im_X0_copyFrom, m_se_X0_copyFrom⟩
theorem cw_X4_74 : CwV RX4 74 yX0_take cX0_take 4 (some .boolean) 2 := ⟨⟨m_ml_X4_74, m_in_X0, m_co_X0_take, by decide +kernel⟩, m_im_X0_take, m_se_X0_take⟩
theorem cw_X4_78 : CwV RX4 78 yX1_remember cX1_remember 2 none 1 := ⟨⟨m_ml_X4_78, m_in_X1, m_co_X1_remember, by decide +kernel⟩, m_im_X1_remember, m_se_X1_remember⟩
theorem cw_X4_81 : CwV RX4 81 yX0_tick cX0_tick 3 (some .int) 1 := ⟨⟨m_ml_X4_81, m_in_X0, m_co_X0_tick, by decide +kernel⟩, m_im_X0_tick, m_se_X0_tick⟩
theorem cw_X4_85 : CwS RX4 85 yX4_isChannel cX4_isChannel 1 (some .boolean) 1 := ⟨⟨m_ml_X4_85, m_in_X4, m_co_X4_isChannel, by decide +kernel⟩, m_st_X4_isChannel⟩
theorem cw_X4_88 : CwV RX4 88 yX0_presentOf cX0_presentOf 3 (some .int) 1 := ⟨⟨m_ml_X4_88, m_in_X0, m_co_X0_presentOf, by decide +kernel⟩, m_im_X0_presentOf, m_se_X0_presentOf⟩
theorem cw_X4_92 : CwV RX4 92 yX0_cancel cX0_cancel 7 (some .int) 1 := ⟨⟨m_ml_X4_92, m_in_X0, m_co_X0_cancel, by decide +kernel⟩, m_im_X0_cancel, m_se_X0_cancel⟩
theorem cw_X4_95 : CwV RX4 95 yX0_ofChannel cX0_ofChannel 3 (some .int) 2 := ⟨⟨m_ml_X4_95, m_in_X0, m_co_X0_ofChannel, by decide +kernel⟩, m_im_X0_ofChannel, m_se_X0_ofChannel⟩
theorem cw_X4_99 : CwV RX4 99 yX0_setChannel cX0_setChannel 4 none 3 := ⟨⟨m_ml_X4_99, m_in_X0, m_co_X0_setChannel, by decide +kernel⟩, m_im_X0_setChannel, m_se_X0_setChannel⟩
theorem cw_X4_103 : CwV RX4 103 yX1_restore cX1_restore 2 (some .boolean) 1 := ⟨⟨m_ml_X4_103, m_in_X1, m_co_X1_restore, by decide +kernel⟩, m_im_X1_restore, m_se_X1_restore⟩
theorem cw_X4_114 : CwV RX4 114 yX4_presentResidue cX4_presentResidue 3 (some .int) 1 := ⟨⟨m_ml_X4_114, m_in_X4, m_co_X4_presentResidue, by decide +kernel⟩, m_im_X4_presentResidue, m_se_X4_presentResidue⟩
theorem cw_X4_117 : CwV RX4 117 yX0_isReady cX0_isReady 3 (some .boolean) 1 := ⟨⟨m_ml_X4_117, m_in_X0, m_co_X0_isReady, by decide +kernel⟩, m_im_X0_isReady, m_se_X0_isReady⟩
theorem cw_X4_120 : CwS RX4 120 yX4_isSlot cX4_isSlot 2 (some .boolean) 2 := ⟨⟨m_ml_X4_120, m_in_X4, m_co_X4_isSlot, by decide +kernel⟩, m_st_X4_isSlot⟩
theorem cw_X4_124 : CwS RX4 124 yX0_placeOf cX0_placeOf 2 (some .int) 2 := ⟨⟨m_ml_X4_124, m_in_X0, m_co_X0_placeOf, by decide +kernel⟩, m_st_X0_placeOf⟩
theorem cw_X4_127 : CwV RX4 127 yX0_hasLetter cX0_hasLetter 2 (some .boolean) 1 := ⟨⟨m_ml_X4_127, m_in_X0, m_co_X0_hasLetter, by decide +kernel⟩, m_im_X0_hasLetter, m_se_X0_hasLetter⟩
theorem cw_X4_130 : CwV RX4 130 yX0_ofLetter cX0_ofLetter 3 (some .int) 2 := ⟨⟨m_ml_X4_130, m_in_X0, m_co_X0_ofLetter, by decide +kernel⟩, m_im_X0_ofLetter, m_se_X0_ofLetter⟩
theorem cw_X4_133 : CwV RX4 133 yX0_unitsOf cX0_unitsOf 2 (some .int) 1 := ⟨⟨m_ml_X4_133, m_in_X0, m_co_X0_unitsOf, by decide +kernel⟩, m_im_X0_unitsOf, m_se_X0_unitsOf⟩
theorem cw_X4_136 : CwV RX4 136 yX0_addressOf cX0_addressOf 8 (some .int) 3 := ⟨⟨m_ml_X4_136, m_in_X0, m_co_X0_addressOf, by decide +kernel⟩, m_im_X0_addressOf, m_se_X0_addressOf⟩
theorem cw_X4_146 : CwV RX4 146 yX0_writtenBy cX0_writtenBy 6 (some .long) 1 := ⟨⟨m_ml_X4_146, m_in_X0, m_co_X0_writtenBy, by decide +kernel⟩, m_im_X0_writtenBy, m_se_X0_writtenBy⟩
theorem cw_X4_150 : CwS RX4 150 yJ13_bitCount_95d88 cJ13_bitCount_95d88 2 (some .int) 1 := ⟨⟨m_ml_X4_150, m_in_J13, m_co_J13_bitCount_95d88, by decide +kernel⟩, m_st_J13_bitCount_95d88⟩
theorem cw_X4_156 : CwV RX4 156 yX4_ticksUntilOver cX4_ticksUntilOver 6 (some .int) 2 := ⟨⟨m_ml_X4_156, m_in_X4, m_co_X4_ticksUntilOver, by decide +kernel⟩, m_im_X4_ticksUntilOver, m_se_X4_ticksUntilOver⟩
theorem cw_X4_159 : CwV RX4 159 yX0_unitsBoundFor cX0_unitsBoundFor 4 (some .int) 1 := ⟨⟨m_ml_X4_159, m_in_X0, m_co_X0_unitsBoundFor, by decide +kernel⟩, m_im_X0_unitsBoundFor, m_se_X0_unitsBoundFor⟩
theorem cw_X4_162 : CwV RX4 162 yX2_note cX2_note 3 (some .boolean) 2 := ⟨⟨m_ml_X4_162, m_in_X2, m_co_X2_note, by decide +kernel⟩, m_im_X2_note, m_se_X2_note⟩
theorem cw_X4_168 : CwV RX4 168 yX2_drop cX2_drop 1 none 0 := ⟨⟨m_ml_X4_168, m_in_X2, m_co_X2_drop, by decide +kernel⟩, m_im_X2_drop, m_se_X2_drop⟩
theorem cw_X4_171 : CwV RX4 171 yX2_comeTrue cX2_comeTrue 4 (some .boolean) 1 := ⟨⟨m_ml_X4_171, m_in_X2, m_co_X2_comeTrue, by decide +kernel⟩, m_im_X2_comeTrue, m_se_X2_comeTrue⟩
theorem cw_X4_174 : CwV RX4 174 yX0_engineLetters cX0_engineLetters 3 (some .int) 0 := ⟨⟨m_ml_X4_174, m_in_X0, m_co_X0_engineLetters, by decide +kernel⟩, m_im_X0_engineLetters, m_se_X0_engineLetters⟩
theorem cw_X4_177 : CwV RX4 177 yX1_lose cX1_lose 1 none 0 := ⟨⟨m_ml_X4_177, m_in_X1, m_co_X1_lose, by decide +kernel⟩, m_im_X1_lose, m_se_X1_lose⟩
theorem cw_X4_186 : CwV RX4 186 yX0_engineLettersOf cX0_engineLettersOf 4 (some .int) 1 := ⟨⟨m_ml_X4_186, m_in_X0, m_co_X0_engineLettersOf, by decide +kernel⟩, m_im_X0_engineLettersOf, m_se_X0_engineLettersOf⟩
theorem cw_X5_38 : CwS RX5 38 yX5_in cX5_in 3 (some .boolean) 3 := ⟨⟨m_ml_X5_38, m_in_X5, m_co_X5_in, by decide +kernel⟩, m_st_X5_in⟩
theorem cw_X5_49 : CwV RX5 49 yX5_isFigure cX5_isFigure 2 (some .boolean) 1 := ⟨⟨m_ml_X5_49, m_in_X5, m_co_X5_isFigure, by decide +kernel⟩, m_im_X5_isFigure, m_se_X5_isFigure⟩
theorem cw_X5_62 : CwV RX5 62 yX5_takesNumber cX5_takesNumber 6 none 0 := ⟨⟨m_ml_X5_62, m_in_X5, m_co_X5_takesNumber, by decide +kernel⟩, m_im_X5_takesNumber, m_se_X5_takesNumber⟩
theorem cw_X5_65 : CwV RX5 65 yX5_takes cX5_takes 1 none 0 := ⟨⟨m_ml_X5_65, m_in_X5, m_co_X5_takes, by decide +kernel⟩, m_im_X5_takes, m_se_X5_takes⟩
theorem cw_X5_68 : CwV RX5 68 yX5_reads cX5_reads 4 (some .boolean) 3 := ⟨⟨m_ml_X5_68, m_in_X5, m_co_X5_reads, by decide +kernel⟩, m_im_X5_reads, m_se_X5_reads⟩
theorem cw_X5_71 : CwV RX5 71 yX5_readsLetter cX5_readsLetter 2 (some .boolean) 0 := ⟨⟨m_ml_X5_71, m_in_X5, m_co_X5_readsLetter, by decide +kernel⟩, m_im_X5_readsLetter, m_se_X5_readsLetter⟩
theorem cw_X5_75 : CwS RX5 75 yX5_channelAt cX5_channelAt 1 (some .int) 1 := ⟨⟨m_ml_X5_75, m_in_X5, m_co_X5_channelAt, by decide +kernel⟩, m_st_X5_channelAt⟩
theorem cw_X5_79 : CwS RX5 79 yX5_slotAt cX5_slotAt 2 (some .int) 2 := ⟨⟨m_ml_X5_79, m_in_X5, m_co_X5_slotAt, by decide +kernel⟩, m_st_X5_slotAt⟩
theorem cw_X5_83 : CwV RX5 83 yX5_isEngines cX5_isEngines 2 (some .boolean) 1 := ⟨⟨m_ml_X5_83, m_in_X5, m_co_X5_isEngines, by decide +kernel⟩, m_im_X5_isEngines, m_se_X5_isEngines⟩
theorem cw_X5_86 : CwV RX5 86 yX5_comes cX5_comes 4 (some .boolean) 0 := ⟨⟨m_ml_X5_86, m_in_X5, m_co_X5_comes, by decide +kernel⟩, m_im_X5_comes, m_se_X5_comes⟩
theorem cw_X5_92 : CwV RX5 92 yX5_readsItem cX5_readsItem 3 (some .boolean) 1 := ⟨⟨m_ml_X5_92, m_in_X5, m_co_X5_readsItem, by decide +kernel⟩, m_im_X5_readsItem, m_se_X5_readsItem⟩
theorem cw_X5_95 : CwV RX5 95 yX5_doesItem cX5_doesItem 2 (some .boolean) 1 := ⟨⟨m_ml_X5_95, m_in_X5, m_co_X5_doesItem, by decide +kernel⟩, m_im_X5_doesItem, m_se_X5_doesItem⟩
theorem cw_X5_101 : CwV RX5 101 yX5_goesThrough cX5_goesThrough 4 (some .boolean) 1 := ⟨⟨m_ml_X5_101, m_in_X5, m_co_X5_goesThrough, by decide +kernel⟩, m_im_X5_goesThrough, m_se_X5_goesThrough⟩
theorem cw_X5_105 : CwV RX5 105 yX5_keepsSpare cX5_keepsSpare 2 none 0 := ⟨⟨m_ml_X5_105, m_in_X5, m_co_X5_keepsSpare, by decide +kernel⟩, m_im_X5_keepsSpare, m_se_X5_keepsSpare⟩
theorem cw_X5_108 : CwV RX5 108 yX5_takesBack cX5_takesBack 2 none 0 := ⟨⟨m_ml_X5_108, m_in_X5, m_co_X5_takesBack, by decide +kernel⟩, m_im_X5_takesBack, m_se_X5_takesBack⟩
theorem cw_X5_111 : CwV RX5 111 yX5_remembers cX5_remembers 2 none 0 := ⟨⟨m_ml_X5_111, m_in_X5, m_co_X5_remembers, by decide +kernel⟩, m_im_X5_remembers, m_se_X5_remembers⟩
theorem cw_X5_114 : CwV RX5 114 yX5_present cX5_present 3 (some .int) 1 := ⟨⟨m_ml_X5_114, m_in_X5, m_co_X5_present, by decide +kernel⟩, m_im_X5_present, m_se_X5_present⟩
theorem cw_X5_117 : CwS RX5 117 yX5_around cX5_around 2 (some .int) 1 := ⟨⟨m_ml_X5_117, m_in_X5, m_co_X5_around, by decide +kernel⟩, m_st_X5_around⟩
theorem cw_X5_120 : CwV RX5 120 yX5_unitsOf cX5_unitsOf 2 (some .int) 1 := ⟨⟨m_ml_X5_120, m_in_X5, m_co_X5_unitsOf, by decide +kernel⟩, m_im_X5_unitsOf, m_se_X5_unitsOf⟩
theorem cw_X5_123 : CwV RX5 123 yX5_addressOf cX5_addressOf 6 (some .int) 3 := ⟨⟨m_ml_X5_123, m_in_X5, m_co_X5_addressOf, by decide +kernel⟩, m_im_X5_addressOf, m_se_X5_addressOf⟩
theorem cw_X5_127 : CwV RX5 127 yX5_writes cX5_writes 5 none 1 := ⟨⟨m_ml_X5_127, m_in_X5, m_co_X5_writes, by decide +kernel⟩, m_im_X5_writes, m_se_X5_writes⟩
theorem cw_X5_131 : CwV RX5 131 yX5_isReady cX5_isReady 4 (some .boolean) 1 := ⟨⟨m_ml_X5_131, m_in_X5, m_co_X5_isReady, by decide +kernel⟩, m_im_X5_isReady, m_se_X5_isReady⟩
theorem cw_X5_134 : CwV RX5 134 yX5_carries cX5_carries 7 none 1 := ⟨⟨m_ml_X5_134, m_in_X5, m_co_X5_carries, by decide +kernel⟩, m_im_X5_carries, m_se_X5_carries⟩
theorem cw_X5_137 : CwV RX5 137 yX5_ticksOnce cX5_ticksOnce 5 (some .int) 0 := ⟨⟨m_ml_X5_137, m_in_X5, m_co_X5_ticksOnce, by decide +kernel⟩, m_im_X5_ticksOnce, m_se_X5_ticksOnce⟩
theorem cw_X5_141 : CwS RX5 141 yX5_isChannel cX5_isChannel 1 (some .boolean) 1 := ⟨⟨m_ml_X5_141, m_in_X5, m_co_X5_isChannel, by decide +kernel⟩, m_st_X5_isChannel⟩
theorem cw_X5_144 : CwV RX5 144 yX5_writesAll cX5_writesAll 3 none 1 := ⟨⟨m_ml_X5_144, m_in_X5, m_co_X5_writesAll, by decide +kernel⟩, m_im_X5_writesAll, m_se_X5_writesAll⟩
theorem cw_X5_147 : CwS RX5 147 yX5_isSlot cX5_isSlot 2 (some .boolean) 2 := ⟨⟨m_ml_X5_147, m_in_X5, m_co_X5_isSlot, by decide +kernel⟩, m_st_X5_isSlot⟩
theorem cw_X5_151 : CwV RX5 151 yX5_writesOf cX5_writesOf 5 (some .long) 1 := ⟨⟨m_ml_X5_151, m_in_X5, m_co_X5_writesOf, by decide +kernel⟩, m_im_X5_writesOf, m_se_X5_writesOf⟩
theorem cw_X5_155 : CwV RX5 155 yX5_hasEngines cX5_hasEngines 4 (some .boolean) 1 := ⟨⟨m_ml_X5_155, m_in_X5, m_co_X5_hasEngines, by decide +kernel⟩, m_im_X5_hasEngines, m_se_X5_hasEngines⟩
theorem cw_X5_158 : CwV RX5 158 yX5_overOf cX5_overOf 3 (some .int) 1 := ⟨⟨m_ml_X5_158, m_in_X5, m_co_X5_overOf, by decide +kernel⟩, m_im_X5_overOf, m_se_X5_overOf⟩
theorem cw_X5_164 : CwV RX5 164 yX5_isSeen cX5_isSeen 5 (some .boolean) 0 := ⟨⟨m_ml_X5_164, m_in_X5, m_co_X5_isSeen, by decide +kernel⟩, m_im_X5_isSeen, m_se_X5_isSeen⟩
theorem cw_X5_167 : CwV RX5 167 yX5_engines cX5_engines 3 (some .int) 0 := ⟨⟨m_ml_X5_167, m_in_X5, m_co_X5_engines, by decide +kernel⟩, m_im_X5_engines, m_se_X5_engines⟩
end
section
theorem dX0_init_0 : decode cX0_init 0 = .ok (.aload_n 0, 1) := by decide +kernel
theorem dX0_init_1 : decode cX0_init 1 = .ok (.invokespecial 3, 3) := by decide +kernel
theorem dX0_init_4 : decode cX0_init 4 = .ok (.aload_n 0, 1) := by decide +kernel
theorem dX0_init_5 : decode cX0_init 5 = .ok (.bipush 64, 2) := by decide +kernel
theorem dX0_init_7 : decode cX0_init 7 = .ok (.newarray .int, 2) := by decide +kernel
theorem dX0_init_9 : decode cX0_init 9 = .ok (.putfield 9, 3) := by decide +kernel
theorem dX0_init_12 : decode cX0_init 12 = .ok (.iconst 0, 1) := by decide +kernel
theorem dX0_init_13 : decode cX0_init 13 = .ok (.istore_n 1, 1) := by decide +kernel
theorem dX0_init_14 : decode cX0_init 14 = .ok (.iload_n 1, 1) := by decide +kernel
theorem dX0_init_15 : decode cX0_init 15 = .ok (.bipush 64, 2) := by decide +kernel
theorem dX0_init_17 : decode cX0_init 17 = .ok (.if_icmp .ge 16, 3) := by decide +kernel
theorem dX0_init_20 : decode cX0_init 20 = .ok (.aload_n 0, 1) := by decide +kernel
theorem dX0_init_21 : decode cX0_init 21 = .ok (.getfield 9, 3) := by decide +kernel
theorem dX0_init_24 : decode cX0_init 24 = .ok (.iload_n 1, 1) := by decide +kernel
theorem dX0_init_25 : decode cX0_init 25 = .ok (.iload_n 1, 1) := by decide +kernel
theorem dX0_init_26 : decode cX0_init 26 = .ok (.iastore, 1) := by decide +kernel
theorem dX0_init_27 : decode cX0_init 27 = .ok (.iinc 1 1, 3) := by decide +kernel
theorem dX0_init_30 : decode cX0_init 30 = .ok (.goto (-16), 3) := by decide +kernel
theorem dX0_init_33 : decode cX0_init 33 = .ok (.aload_n 0, 1) := by decide +kernel
theorem dX0_init_34 : decode cX0_init 34 = .ok (.bipush 28, 2) := by decide +kernel
theorem dX0_init_36 : decode cX0_init 36 = .ok (.newarray .int, 2) := by decide +kernel
theorem dX0_init_38 : decode cX0_init 38 = .ok (.putfield 15, 3) := by decide +kernel
theorem dX0_init_41 : decode cX0_init 41 = .ok (.iconst 0, 1) := by decide +kernel
theorem dX0_init_42 : decode cX0_init 42 = .ok (.istore_n 1, 1) := by decide +kernel
theorem dX0_init_43 : decode cX0_init 43 = .ok (.iload_n 1, 1) := by decide +kernel
theorem dX0_init_44 : decode cX0_init 44 = .ok (.iconst 4, 1) := by decide +kernel
theorem dX0_init_45 : decode cX0_init 45 = .ok (.if_icmp .ge 33, 3) := by decide +kernel
theorem dX0_init_48 : decode cX0_init 48 = .ok (.aload_n 0, 1) := by decide +kernel
theorem dX0_init_49 : decode cX0_init 49 = .ok (.getfield 15, 3) := by decide +kernel
theorem dX0_init_52 : decode cX0_init 52 = .ok (.iload_n 1, 1) := by decide +kernel
theorem dX0_init_53 : decode cX0_init 53 = .ok (.bipush 7, 2) := by decide +kernel
theorem dX0_init_55 : decode cX0_init 55 = .ok (.imul, 1) := by decide +kernel
theorem dX0_init_56 : decode cX0_init 56 = .ok (.iconst 0, 1) := by decide +kernel
theorem dX0_init_57 : decode cX0_init 57 = .ok (.iadd, 1) := by decide +kernel
theorem dX0_init_58 : decode cX0_init 58 = .ok (.iconst 1, 1) := by decide +kernel
theorem dX0_init_59 : decode cX0_init 59 = .ok (.iastore, 1) := by decide +kernel
theorem dX0_init_60 : decode cX0_init 60 = .ok (.aload_n 0, 1) := by decide +kernel
theorem dX0_init_61 : decode cX0_init 61 = .ok (.getfield 15, 3) := by decide +kernel
theorem dX0_init_64 : decode cX0_init 64 = .ok (.iload_n 1, 1) := by decide +kernel
theorem dX0_init_65 : decode cX0_init 65 = .ok (.bipush 7, 2) := by decide +kernel
theorem dX0_init_67 : decode cX0_init 67 = .ok (.imul, 1) := by decide +kernel
theorem dX0_init_68 : decode cX0_init 68 = .ok (.iconst 2, 1) := by decide +kernel
theorem dX0_init_69 : decode cX0_init 69 = .ok (.iadd, 1) := by decide +kernel
theorem dX0_init_70 : decode cX0_init 70 = .ok (.iconst 4, 1) := by decide +kernel
theorem dX0_init_71 : decode cX0_init 71 = .ok (.iastore, 1) := by decide +kernel
theorem dX0_init_72 : decode cX0_init 72 = .ok (.iinc 1 1, 3) := by decide +kernel
theorem dX0_init_75 : decode cX0_init 75 = .ok (.goto (-32), 3) := by decide +kernel
theorem dX0_init_78 : decode cX0_init 78 = .ok (.aload_n 0, 1) := by decide +kernel
theorem dX0_init_79 : decode cX0_init 79 = .ok (.sipush 312, 3) := by decide +kernel
theorem dX0_init_82 : decode cX0_init 82 = .ok (.newarray .int, 2) := by decide +kernel
theorem dX0_init_84 : decode cX0_init 84 = .ok (.putfield 18, 3) := by decide +kernel
theorem dX0_init_87 : decode cX0_init 87 = .ok (.aload_n 0, 1) := by decide +kernel
theorem dX0_init_88 : decode cX0_init 88 = .ok (.bipush 24, 2) := by decide +kernel
theorem dX0_init_90 : decode cX0_init 90 = .ok (.newarray .int, 2) := by decide +kernel
theorem dX0_init_92 : decode cX0_init 92 = .ok (.putfield 21, 3) := by decide +kernel
theorem dX0_init_95 : decode cX0_init 95 = .ok (.aload_n 0, 1) := by decide +kernel
theorem dX0_init_96 : decode cX0_init 96 = .ok (.iconst 0, 1) := by decide +kernel
theorem dX0_init_97 : decode cX0_init 97 = .ok (.putfield 24, 3) := by decide +kernel
theorem dX0_init_100 : decode cX0_init 100 = .ok (.aload_n 0, 1) := by decide +kernel
theorem dX0_init_101 : decode cX0_init 101 = .ok (.iconst 3, 1) := by decide +kernel
theorem dX0_init_102 : decode cX0_init 102 = .ok (.putfield 28, 3) := by decide +kernel
theorem dX0_init_105 : decode cX0_init 105 = .ok (.aload_n 0, 1) := by decide +kernel
theorem dX0_init_106 : decode cX0_init 106 = .ok (.iconst 0, 1) := by decide +kernel
theorem dX0_init_107 : decode cX0_init 107 = .ok (.putfield 31, 3) := by decide +kernel
theorem dX0_init_110 : decode cX0_init 110 = .ok (.return_, 1) := by decide +kernel
theorem dX0_copyFrom_0 : decode cX0_copyFrom 0 = .ok (.aload_n 1, 1) := by decide +kernel
theorem dX0_copyFrom_1 : decode cX0_copyFrom 1 = .ok (.getfield 9, 3) := by decide +kernel
theorem dX0_copyFrom_4 : decode cX0_copyFrom 4 = .ok (.iconst 0, 1) := by decide +kernel
theorem dX0_copyFrom_5 : decode cX0_copyFrom 5 = .ok (.aload_n 0, 1) := by decide +kernel
theorem dX0_copyFrom_6 : decode cX0_copyFrom 6 = .ok (.getfield 9, 3) := by decide +kernel
theorem dX0_copyFrom_9 : decode cX0_copyFrom 9 = .ok (.iconst 0, 1) := by decide +kernel
theorem dX0_copyFrom_10 : decode cX0_copyFrom 10 = .ok (.aload_n 0, 1) := by decide +kernel
theorem dX0_copyFrom_11 : decode cX0_copyFrom 11 = .ok (.getfield 9, 3) := by decide +kernel
theorem dX0_copyFrom_14 : decode cX0_copyFrom 14 = .ok (.arraylength, 1) := by decide +kernel
theorem dX0_copyFrom_15 : decode cX0_copyFrom 15 = .ok (.invokestatic 34, 3) := by decide +kernel
theorem dX0_copyFrom_18 : decode cX0_copyFrom 18 = .ok (.aload_n 1, 1) := by decide +kernel
theorem dX0_copyFrom_19 : decode cX0_copyFrom 19 = .ok (.getfield 15, 3) := by decide +kernel
theorem dX0_copyFrom_22 : decode cX0_copyFrom 22 = .ok (.iconst 0, 1) := by decide +kernel
theorem dX0_copyFrom_23 : decode cX0_copyFrom 23 = .ok (.aload_n 0, 1) := by decide +kernel
theorem dX0_copyFrom_24 : decode cX0_copyFrom 24 = .ok (.getfield 15, 3) := by decide +kernel
theorem dX0_copyFrom_27 : decode cX0_copyFrom 27 = .ok (.iconst 0, 1) := by decide +kernel
theorem dX0_copyFrom_28 : decode cX0_copyFrom 28 = .ok (.aload_n 0, 1) := by decide +kernel
theorem dX0_copyFrom_29 : decode cX0_copyFrom 29 = .ok (.getfield 15, 3) := by decide +kernel
theorem dX0_copyFrom_32 : decode cX0_copyFrom 32 = .ok (.arraylength, 1) := by decide +kernel
theorem dX0_copyFrom_33 : decode cX0_copyFrom 33 = .ok (.invokestatic 34, 3) := by decide +kernel
theorem dX0_copyFrom_36 : decode cX0_copyFrom 36 = .ok (.aload_n 1, 1) := by decide +kernel
theorem dX0_copyFrom_37 : decode cX0_copyFrom 37 = .ok (.getfield 18, 3) := by decide +kernel
theorem dX0_copyFrom_40 : decode cX0_copyFrom 40 = .ok (.iconst 0, 1) := by decide +kernel
theorem dX0_copyFrom_41 : decode cX0_copyFrom 41 = .ok (.aload_n 0, 1) := by decide +kernel
theorem dX0_copyFrom_42 : decode cX0_copyFrom 42 = .ok (.getfield 18, 3) := by decide +kernel
theorem dX0_copyFrom_45 : decode cX0_copyFrom 45 = .ok (.iconst 0, 1) := by decide +kernel
theorem dX0_copyFrom_46 : decode cX0_copyFrom 46 = .ok (.aload_n 0, 1) := by decide +kernel
theorem dX0_copyFrom_47 : decode cX0_copyFrom 47 = .ok (.getfield 18, 3) := by decide +kernel
theorem dX0_copyFrom_50 : decode cX0_copyFrom 50 = .ok (.arraylength, 1) := by decide +kernel
theorem dX0_copyFrom_51 : decode cX0_copyFrom 51 = .ok (.invokestatic 34, 3) := by decide +kernel
theorem dX0_copyFrom_54 : decode cX0_copyFrom 54 = .ok (.aload_n 1, 1) := by decide +kernel
theorem dX0_copyFrom_55 : decode cX0_copyFrom 55 = .ok (.getfield 21, 3) := by decide +kernel
theorem dX0_copyFrom_58 : decode cX0_copyFrom 58 = .ok (.iconst 0, 1) := by decide +kernel
theorem dX0_copyFrom_59 : decode cX0_copyFrom 59 = .ok (.aload_n 0, 1) := by decide +kernel
theorem dX0_copyFrom_60 : decode cX0_copyFrom 60 = .ok (.getfield 21, 3) := by decide +kernel
theorem dX0_copyFrom_63 : decode cX0_copyFrom 63 = .ok (.iconst 0, 1) := by decide +kernel
theorem dX0_copyFrom_64 : decode cX0_copyFrom 64 = .ok (.aload_n 0, 1) := by decide +kernel
theorem dX0_copyFrom_65 : decode cX0_copyFrom 65 = .ok (.getfield 21, 3) := by decide +kernel
theorem dX0_copyFrom_68 : decode cX0_copyFrom 68 = .ok (.arraylength, 1) := by decide +kernel
theorem dX0_copyFrom_69 : decode cX0_copyFrom 69 = .ok (.invokestatic 34, 3) := by decide +kernel
theorem dX0_copyFrom_72 : decode cX0_copyFrom 72 = .ok (.aload_n 0, 1) := by decide +kernel
theorem dX0_copyFrom_73 : decode cX0_copyFrom 73 = .ok (.aload_n 1, 1) := by decide +kernel
theorem dX0_copyFrom_74 : decode cX0_copyFrom 74 = .ok (.getfield 24, 3) := by decide +kernel
theorem dX0_copyFrom_77 : decode cX0_copyFrom 77 = .ok (.putfield 24, 3) := by decide +kernel
theorem dX0_copyFrom_80 : decode cX0_copyFrom 80 = .ok (.aload_n 0, 1) := by decide +kernel
theorem dX0_copyFrom_81 : decode cX0_copyFrom 81 = .ok (.aload_n 1, 1) := by decide +kernel
theorem dX0_copyFrom_82 : decode cX0_copyFrom 82 = .ok (.getfield 28, 3) := by decide +kernel
theorem dX0_copyFrom_85 : decode cX0_copyFrom 85 = .ok (.putfield 28, 3) := by decide +kernel
theorem dX0_copyFrom_88 : decode cX0_copyFrom 88 = .ok (.aload_n 0, 1) := by decide +kernel
theorem dX0_copyFrom_89 : decode cX0_copyFrom 89 = .ok (.aload_n 1, 1) := by decide +kernel
theorem dX0_copyFrom_90 : decode cX0_copyFrom 90 = .ok (.getfield 31, 3) := by decide +kernel
theorem dX0_copyFrom_93 : decode cX0_copyFrom 93 = .ok (.putfield 31, 3) := by decide +kernel
theorem dX0_copyFrom_96 : decode cX0_copyFrom 96 = .ok (.return_, 1) := by decide +kernel
theorem dX0_placeOf_0 : decode cX0_placeOf 0 = .ok (.iload_n 0, 1) := by decide +kernel
theorem dX0_placeOf_1 : decode cX0_placeOf 1 = .ok (.bipush 6, 2) := by decide +kernel
theorem dX0_placeOf_3 : decode cX0_placeOf 3 = .ok (.imul, 1) := by decide +kernel
theorem dX0_placeOf_4 : decode cX0_placeOf 4 = .ok (.iload_n 1, 1) := by decide +kernel
theorem dX0_placeOf_5 : decode cX0_placeOf 5 = .ok (.iadd, 1) := by decide +kernel
theorem dX0_placeOf_6 : decode cX0_placeOf 6 = .ok (.ireturn, 1) := by decide +kernel
theorem dX0_slotBehind_0 : decode cX0_slotBehind 0 = .ok (.iload_n 0, 1) := by decide +kernel
theorem dX0_slotBehind_1 : decode cX0_slotBehind 1 = .ok (.iconst 5, 1) := by decide +kernel
theorem dX0_slotBehind_2 : decode cX0_slotBehind 2 = .ok (.if_icmp .lt 7, 3) := by decide +kernel
theorem dX0_slotBehind_5 : decode cX0_slotBehind 5 = .ok (.iconst 0, 1) := by decide +kernel
theorem dX0_slotBehind_6 : decode cX0_slotBehind 6 = .ok (.goto 6, 3) := by decide +kernel
theorem dX0_slotBehind_9 : decode cX0_slotBehind 9 = .ok (.iload_n 0, 1) := by decide +kernel
theorem dX0_slotBehind_10 : decode cX0_slotBehind 10 = .ok (.iconst 1, 1) := by decide +kernel
theorem dX0_slotBehind_11 : decode cX0_slotBehind 11 = .ok (.iadd, 1) := by decide +kernel
theorem dX0_slotBehind_12 : decode cX0_slotBehind 12 = .ok (.ireturn, 1) := by decide +kernel
theorem dX0_ofChannel_0 : decode cX0_ofChannel 0 = .ok (.aload_n 0, 1) := by decide +kernel
theorem dX0_ofChannel_1 : decode cX0_ofChannel 1 = .ok (.getfield 15, 3) := by decide +kernel
theorem dX0_ofChannel_4 : decode cX0_ofChannel 4 = .ok (.iload_n 1, 1) := by decide +kernel
theorem dX0_ofChannel_5 : decode cX0_ofChannel 5 = .ok (.bipush 7, 2) := by decide +kernel
theorem dX0_ofChannel_7 : decode cX0_ofChannel 7 = .ok (.imul, 1) := by decide +kernel
theorem dX0_ofChannel_8 : decode cX0_ofChannel 8 = .ok (.iload_n 2, 1) := by decide +kernel
theorem dX0_ofChannel_9 : decode cX0_ofChannel 9 = .ok (.iadd, 1) := by decide +kernel
theorem dX0_ofChannel_10 : decode cX0_ofChannel 10 = .ok (.iaload, 1) := by decide +kernel
theorem dX0_ofChannel_11 : decode cX0_ofChannel 11 = .ok (.ireturn, 1) := by decide +kernel
theorem dX0_setChannel_0 : decode cX0_setChannel 0 = .ok (.aload_n 0, 1) := by decide +kernel
theorem dX0_setChannel_1 : decode cX0_setChannel 1 = .ok (.getfield 15, 3) := by decide +kernel
theorem dX0_setChannel_4 : decode cX0_setChannel 4 = .ok (.iload_n 1, 1) := by decide +kernel
theorem dX0_setChannel_5 : decode cX0_setChannel 5 = .ok (.bipush 7, 2) := by decide +kernel
theorem dX0_setChannel_7 : decode cX0_setChannel 7 = .ok (.imul, 1) := by decide +kernel
theorem dX0_setChannel_8 : decode cX0_setChannel 8 = .ok (.iload_n 2, 1) := by decide +kernel
theorem dX0_setChannel_9 : decode cX0_setChannel 9 = .ok (.iadd, 1) := by decide +kernel
theorem dX0_setChannel_10 : decode cX0_setChannel 10 = .ok (.iload_n 3, 1) := by decide +kernel
theorem dX0_setChannel_11 : decode cX0_setChannel 11 = .ok (.iastore, 1) := by decide +kernel
theorem dX0_setChannel_12 : decode cX0_setChannel 12 = .ok (.return_, 1) := by decide +kernel
theorem dX0_addOneTo_0 : decode cX0_addOneTo 0 = .ok (.aload_n 0, 1) := by decide +kernel
theorem dX0_addOneTo_1 : decode cX0_addOneTo 1 = .ok (.getfield 15, 3) := by decide +kernel
theorem dX0_addOneTo_4 : decode cX0_addOneTo 4 = .ok (.iload_n 1, 1) := by decide +kernel
theorem dX0_addOneTo_5 : decode cX0_addOneTo 5 = .ok (.bipush 7, 2) := by decide +kernel
theorem dX0_addOneTo_7 : decode cX0_addOneTo 7 = .ok (.imul, 1) := by decide +kernel
theorem dX0_addOneTo_8 : decode cX0_addOneTo 8 = .ok (.iload_n 2, 1) := by decide +kernel
theorem dX0_addOneTo_9 : decode cX0_addOneTo 9 = .ok (.iadd, 1) := by decide +kernel
theorem dX0_addOneTo_10 : decode cX0_addOneTo 10 = .ok (.dup2, 1) := by decide +kernel
theorem dX0_addOneTo_11 : decode cX0_addOneTo 11 = .ok (.iaload, 1) := by decide +kernel
theorem dX0_addOneTo_12 : decode cX0_addOneTo 12 = .ok (.iconst 1, 1) := by decide +kernel
theorem dX0_addOneTo_13 : decode cX0_addOneTo 13 = .ok (.iadd, 1) := by decide +kernel
theorem dX0_addOneTo_14 : decode cX0_addOneTo 14 = .ok (.iastore, 1) := by decide +kernel
theorem dX0_addOneTo_15 : decode cX0_addOneTo 15 = .ok (.return_, 1) := by decide +kernel
theorem dX0_ofLetter_0 : decode cX0_ofLetter 0 = .ok (.aload_n 0, 1) := by decide +kernel
theorem dX0_ofLetter_1 : decode cX0_ofLetter 1 = .ok (.getfield 18, 3) := by decide +kernel
theorem dX0_ofLetter_4 : decode cX0_ofLetter 4 = .ok (.iload_n 1, 1) := by decide +kernel
theorem dX0_ofLetter_5 : decode cX0_ofLetter 5 = .ok (.bipush 13, 2) := by decide +kernel
theorem dX0_ofLetter_7 : decode cX0_ofLetter 7 = .ok (.imul, 1) := by decide +kernel
theorem dX0_ofLetter_8 : decode cX0_ofLetter 8 = .ok (.iload_n 2, 1) := by decide +kernel
theorem dX0_ofLetter_9 : decode cX0_ofLetter 9 = .ok (.iadd, 1) := by decide +kernel
theorem dX0_ofLetter_10 : decode cX0_ofLetter 10 = .ok (.iaload, 1) := by decide +kernel
theorem dX0_ofLetter_11 : decode cX0_ofLetter 11 = .ok (.ireturn, 1) := by decide +kernel
theorem dX0_setLetter_0 : decode cX0_setLetter 0 = .ok (.aload_n 0, 1) := by decide +kernel
theorem dX0_setLetter_1 : decode cX0_setLetter 1 = .ok (.getfield 18, 3) := by decide +kernel
theorem dX0_setLetter_4 : decode cX0_setLetter 4 = .ok (.iload_n 1, 1) := by decide +kernel
theorem dX0_setLetter_5 : decode cX0_setLetter 5 = .ok (.bipush 13, 2) := by decide +kernel
theorem dX0_setLetter_7 : decode cX0_setLetter 7 = .ok (.imul, 1) := by decide +kernel
theorem dX0_setLetter_8 : decode cX0_setLetter 8 = .ok (.iload_n 2, 1) := by decide +kernel
theorem dX0_setLetter_9 : decode cX0_setLetter 9 = .ok (.iadd, 1) := by decide +kernel
theorem dX0_setLetter_10 : decode cX0_setLetter 10 = .ok (.iload_n 3, 1) := by decide +kernel
theorem dX0_setLetter_11 : decode cX0_setLetter 11 = .ok (.iastore, 1) := by decide +kernel
theorem dX0_setLetter_12 : decode cX0_setLetter 12 = .ok (.return_, 1) := by decide +kernel
theorem dX0_hasLetter_0 : decode cX0_hasLetter 0 = .ok (.aload_n 0, 1) := by decide +kernel
theorem dX0_hasLetter_1 : decode cX0_hasLetter 1 = .ok (.iload_n 1, 1) := by decide +kernel
theorem dX0_hasLetter_2 : decode cX0_hasLetter 2 = .ok (.iconst 2, 1) := by decide +kernel
theorem dX0_hasLetter_3 : decode cX0_hasLetter 3 = .ok (.invokevirtual 40, 3) := by decide +kernel
theorem dX0_hasLetter_6 : decode cX0_hasLetter 6 = .ok (.ifCond .le 7, 3) := by decide +kernel
theorem dX0_hasLetter_9 : decode cX0_hasLetter 9 = .ok (.iconst 1, 1) := by decide +kernel
theorem dX0_hasLetter_10 : decode cX0_hasLetter 10 = .ok (.goto 4, 3) := by decide +kernel
theorem dX0_hasLetter_13 : decode cX0_hasLetter 13 = .ok (.iconst 0, 1) := by decide +kernel
theorem dX0_hasLetter_14 : decode cX0_hasLetter 14 = .ok (.ireturn, 1) := by decide +kernel
theorem dX0_isEngines_0 : decode cX0_isEngines 0 = .ok (.aload_n 0, 1) := by decide +kernel
theorem dX0_isEngines_1 : decode cX0_isEngines 1 = .ok (.iload_n 1, 1) := by decide +kernel
theorem dX0_isEngines_2 : decode cX0_isEngines 2 = .ok (.bipush 9, 2) := by decide +kernel
theorem dX0_isEngines_4 : decode cX0_isEngines 4 = .ok (.invokevirtual 40, 3) := by decide +kernel
theorem dX0_isEngines_7 : decode cX0_isEngines 7 = .ok (.iconst 1, 1) := by decide +kernel
theorem dX0_isEngines_8 : decode cX0_isEngines 8 = .ok (.if_icmp .ne 7, 3) := by decide +kernel
theorem dX0_isEngines_11 : decode cX0_isEngines 11 = .ok (.iconst 1, 1) := by decide +kernel
theorem dX0_isEngines_12 : decode cX0_isEngines 12 = .ok (.goto 4, 3) := by decide +kernel
theorem dX0_isEngines_15 : decode cX0_isEngines 15 = .ok (.iconst 0, 1) := by decide +kernel
theorem dX0_isEngines_16 : decode cX0_isEngines 16 = .ok (.ireturn, 1) := by decide +kernel
theorem dX0_isToCarry_0 : decode cX0_isToCarry 0 = .ok (.iload_n 1, 1) := by decide +kernel
theorem dX0_isToCarry_1 : decode cX0_isToCarry 1 = .ok (.bipush 13, 2) := by decide +kernel
theorem dX0_isToCarry_3 : decode cX0_isToCarry 3 = .ok (.imul, 1) := by decide +kernel
theorem dX0_isToCarry_4 : decode cX0_isToCarry 4 = .ok (.istore_n 2, 1) := by decide +kernel
theorem dX0_isToCarry_5 : decode cX0_isToCarry 5 = .ok (.aload_n 0, 1) := by decide +kernel
theorem dX0_isToCarry_6 : decode cX0_isToCarry 6 = .ok (.getfield 18, 3) := by decide +kernel
theorem dX0_isToCarry_9 : decode cX0_isToCarry 9 = .ok (.iload_n 2, 1) := by decide +kernel
theorem dX0_isToCarry_10 : decode cX0_isToCarry 10 = .ok (.bipush 9, 2) := by decide +kernel
theorem dX0_isToCarry_12 : decode cX0_isToCarry 12 = .ok (.iadd, 1) := by decide +kernel
theorem dX0_isToCarry_13 : decode cX0_isToCarry 13 = .ok (.iaload, 1) := by decide +kernel
theorem dX0_isToCarry_14 : decode cX0_isToCarry 14 = .ok (.iconst 1, 1) := by decide +kernel
theorem dX0_isToCarry_15 : decode cX0_isToCarry 15 = .ok (.if_icmp .ne 19, 3) := by decide +kernel
theorem dX0_isToCarry_18 : decode cX0_isToCarry 18 = .ok (.aload_n 0, 1) := by decide +kernel
theorem dX0_isToCarry_19 : decode cX0_isToCarry 19 = .ok (.getfield 18, 3) := by decide +kernel
theorem dX0_isToCarry_22 : decode cX0_isToCarry 22 = .ok (.iload_n 2, 1) := by decide +kernel
theorem dX0_isToCarry_23 : decode cX0_isToCarry 23 = .ok (.bipush 12, 2) := by decide +kernel
theorem dX0_isToCarry_25 : decode cX0_isToCarry 25 = .ok (.iadd, 1) := by decide +kernel
theorem dX0_isToCarry_26 : decode cX0_isToCarry 26 = .ok (.iaload, 1) := by decide +kernel
theorem dX0_isToCarry_27 : decode cX0_isToCarry 27 = .ok (.ifCond .ne 7, 3) := by decide +kernel
theorem dX0_isToCarry_30 : decode cX0_isToCarry 30 = .ok (.iconst 1, 1) := by decide +kernel
theorem dX0_isToCarry_31 : decode cX0_isToCarry 31 = .ok (.goto 4, 3) := by decide +kernel
theorem dX0_isToCarry_34 : decode cX0_isToCarry 34 = .ok (.iconst 0, 1) := by decide +kernel
theorem dX0_isToCarry_35 : decode cX0_isToCarry 35 = .ok (.ireturn, 1) := by decide +kernel
theorem dX0_unitsOf_0 : decode cX0_unitsOf 0 = .ok (.aload_n 0, 1) := by decide +kernel
theorem dX0_unitsOf_1 : decode cX0_unitsOf 1 = .ok (.iload_n 1, 1) := by decide +kernel
theorem dX0_unitsOf_2 : decode cX0_unitsOf 2 = .ok (.iconst 2, 1) := by decide +kernel
theorem dX0_unitsOf_3 : decode cX0_unitsOf 3 = .ok (.invokevirtual 40, 3) := by decide +kernel
theorem dX0_unitsOf_6 : decode cX0_unitsOf 6 = .ok (.aload_n 0, 1) := by decide +kernel
theorem dX0_unitsOf_7 : decode cX0_unitsOf 7 = .ok (.iload_n 1, 1) := by decide +kernel
theorem dX0_unitsOf_8 : decode cX0_unitsOf 8 = .ok (.iconst 5, 1) := by decide +kernel
theorem dX0_unitsOf_9 : decode cX0_unitsOf 9 = .ok (.invokevirtual 40, 3) := by decide +kernel
theorem dX0_unitsOf_12 : decode cX0_unitsOf 12 = .ok (.imul, 1) := by decide +kernel
theorem dX0_unitsOf_13 : decode cX0_unitsOf 13 = .ok (.ireturn, 1) := by decide +kernel
theorem dX0_addressOf_0 : decode cX0_addressOf 0 = .ok (.aload_n 0, 1) := by decide +kernel
theorem dX0_addressOf_1 : decode cX0_addressOf 1 = .ok (.iload_n 1, 1) := by decide +kernel
theorem dX0_addressOf_2 : decode cX0_addressOf 2 = .ok (.iconst 2, 1) := by decide +kernel
theorem dX0_addressOf_3 : decode cX0_addressOf 3 = .ok (.invokevirtual 40, 3) := by decide +kernel
theorem dX0_addressOf_6 : decode cX0_addressOf 6 = .ok (.istore 4, 2) := by decide +kernel
theorem dX0_addressOf_8 : decode cX0_addressOf 8 = .ok (.iload 4, 2) := by decide +kernel
theorem dX0_addressOf_10 : decode cX0_addressOf 10 = .ok (.ifCond .gt 5, 3) := by decide +kernel
theorem dX0_addressOf_13 : decode cX0_addressOf 13 = .ok (.iconst 0, 1) := by decide +kernel
theorem dX0_addressOf_14 : decode cX0_addressOf 14 = .ok (.ireturn, 1) := by decide +kernel
theorem dX0_addressOf_15 : decode cX0_addressOf 15 = .ok (.aload_n 0, 1) := by decide +kernel
theorem dX0_addressOf_16 : decode cX0_addressOf 16 = .ok (.iload_n 1, 1) := by decide +kernel
theorem dX0_addressOf_17 : decode cX0_addressOf 17 = .ok (.iconst 0, 1) := by decide +kernel
theorem dX0_addressOf_18 : decode cX0_addressOf 18 = .ok (.iload_n 3, 1) := by decide +kernel
theorem dX0_addressOf_19 : decode cX0_addressOf 19 = .ok (.iadd, 1) := by decide +kernel
theorem dX0_addressOf_20 : decode cX0_addressOf 20 = .ok (.invokevirtual 40, 3) := by decide +kernel
theorem dX0_addressOf_23 : decode cX0_addressOf 23 = .ok (.istore 5, 2) := by decide +kernel
theorem dX0_addressOf_25 : decode cX0_addressOf 25 = .ok (.iload_n 2, 1) := by decide +kernel
theorem dX0_addressOf_26 : decode cX0_addressOf 26 = .ok (.iload 4, 2) := by decide +kernel
theorem dX0_addressOf_28 : decode cX0_addressOf 28 = .ok (.idiv, 1) := by decide +kernel
theorem dX0_addressOf_29 : decode cX0_addressOf 29 = .ok (.aload_n 0, 1) := by decide +kernel
theorem dX0_addressOf_30 : decode cX0_addressOf 30 = .ok (.iload_n 1, 1) := by decide +kernel
theorem dX0_addressOf_31 : decode cX0_addressOf 31 = .ok (.bipush 6, 2) := by decide +kernel
theorem dX0_addressOf_33 : decode cX0_addressOf 33 = .ok (.iload_n 3, 1) := by decide +kernel
theorem dX0_addressOf_34 : decode cX0_addressOf 34 = .ok (.iadd, 1) := by decide +kernel
theorem dX0_addressOf_35 : decode cX0_addressOf 35 = .ok (.invokevirtual 40, 3) := by decide +kernel
theorem dX0_addressOf_38 : decode cX0_addressOf 38 = .ok (.imul, 1) := by decide +kernel
theorem dX0_addressOf_39 : decode cX0_addressOf 39 = .ok (.istore 6, 2) := by decide +kernel
theorem dX0_addressOf_41 : decode cX0_addressOf 41 = .ok (.iload_n 2, 1) := by decide +kernel
theorem dX0_addressOf_42 : decode cX0_addressOf 42 = .ok (.iload 4, 2) := by decide +kernel
theorem dX0_addressOf_44 : decode cX0_addressOf 44 = .ok (.irem, 1) := by decide +kernel
theorem dX0_addressOf_45 : decode cX0_addressOf 45 = .ok (.aload_n 0, 1) := by decide +kernel
theorem dX0_addressOf_46 : decode cX0_addressOf 46 = .ok (.iload_n 1, 1) := by decide +kernel
theorem dX0_addressOf_47 : decode cX0_addressOf 47 = .ok (.iconst 3, 1) := by decide +kernel
theorem dX0_addressOf_48 : decode cX0_addressOf 48 = .ok (.iload_n 3, 1) := by decide +kernel
theorem dX0_addressOf_49 : decode cX0_addressOf 49 = .ok (.iadd, 1) := by decide +kernel
theorem dX0_addressOf_50 : decode cX0_addressOf 50 = .ok (.invokevirtual 40, 3) := by decide +kernel
theorem dX0_addressOf_53 : decode cX0_addressOf 53 = .ok (.imul, 1) := by decide +kernel
theorem dX0_addressOf_54 : decode cX0_addressOf 54 = .ok (.istore 7, 2) := by decide +kernel
theorem dX0_addressOf_56 : decode cX0_addressOf 56 = .ok (.iload 5, 2) := by decide +kernel
theorem dX0_addressOf_58 : decode cX0_addressOf 58 = .ok (.iload 6, 2) := by decide +kernel
theorem dX0_addressOf_60 : decode cX0_addressOf 60 = .ok (.iadd, 1) := by decide +kernel
theorem dX0_addressOf_61 : decode cX0_addressOf 61 = .ok (.iload 7, 2) := by decide +kernel
theorem dX0_addressOf_63 : decode cX0_addressOf 63 = .ok (.iadd, 1) := by decide +kernel
theorem dX0_addressOf_64 : decode cX0_addressOf 64 = .ok (.bipush 64, 2) := by decide +kernel
theorem dX0_addressOf_66 : decode cX0_addressOf 66 = .ok (.invokestatic 44, 3) := by decide +kernel
theorem dX0_addressOf_69 : decode cX0_addressOf 69 = .ok (.ireturn, 1) := by decide +kernel
theorem dX0_writtenBy_0 : decode cX0_writtenBy 0 = .ok (.lconst 0, 1) := by decide +kernel
theorem dX0_writtenBy_1 : decode cX0_writtenBy 1 = .ok (.lstore_n 2, 1) := by decide +kernel
theorem dX0_writtenBy_2 : decode cX0_writtenBy 2 = .ok (.aload_n 0, 1) := by decide +kernel
theorem dX0_writtenBy_3 : decode cX0_writtenBy 3 = .ok (.iload_n 1, 1) := by decide +kernel
theorem dX0_writtenBy_4 : decode cX0_writtenBy 4 = .ok (.invokevirtual 49, 3) := by decide +kernel
theorem dX0_writtenBy_7 : decode cX0_writtenBy 7 = .ok (.istore 4, 2) := by decide +kernel
theorem dX0_writtenBy_9 : decode cX0_writtenBy 9 = .ok (.iconst 0, 1) := by decide +kernel
theorem dX0_writtenBy_10 : decode cX0_writtenBy 10 = .ok (.istore 5, 2) := by decide +kernel
theorem dX0_writtenBy_12 : decode cX0_writtenBy 12 = .ok (.iload 5, 2) := by decide +kernel
theorem dX0_writtenBy_14 : decode cX0_writtenBy 14 = .ok (.iload 4, 2) := by decide +kernel
theorem dX0_writtenBy_16 : decode cX0_writtenBy 16 = .ok (.if_icmp .ge 22, 3) := by decide +kernel
theorem dX0_writtenBy_19 : decode cX0_writtenBy 19 = .ok (.lload_n 2, 1) := by decide +kernel
theorem dX0_writtenBy_20 : decode cX0_writtenBy 20 = .ok (.lconst 1, 1) := by decide +kernel
theorem dX0_writtenBy_21 : decode cX0_writtenBy 21 = .ok (.aload_n 0, 1) := by decide +kernel
theorem dX0_writtenBy_22 : decode cX0_writtenBy 22 = .ok (.iload_n 1, 1) := by decide +kernel
theorem dX0_writtenBy_23 : decode cX0_writtenBy 23 = .ok (.iload 5, 2) := by decide +kernel
theorem dX0_writtenBy_25 : decode cX0_writtenBy 25 = .ok (.iconst 1, 1) := by decide +kernel
theorem dX0_writtenBy_26 : decode cX0_writtenBy 26 = .ok (.invokevirtual 53, 3) := by decide +kernel
theorem dX0_writtenBy_29 : decode cX0_writtenBy 29 = .ok (.lshl, 1) := by decide +kernel
theorem dX0_writtenBy_30 : decode cX0_writtenBy 30 = .ok (.lor, 1) := by decide +kernel
theorem dX0_writtenBy_31 : decode cX0_writtenBy 31 = .ok (.lstore_n 2, 1) := by decide +kernel
theorem dX0_writtenBy_32 : decode cX0_writtenBy 32 = .ok (.iinc 5 1, 3) := by decide +kernel
theorem dX0_writtenBy_35 : decode cX0_writtenBy 35 = .ok (.goto (-23), 3) := by decide +kernel
theorem dX0_writtenBy_38 : decode cX0_writtenBy 38 = .ok (.lload_n 2, 1) := by decide +kernel
theorem dX0_writtenBy_39 : decode cX0_writtenBy 39 = .ok (.lreturn, 1) := by decide +kernel
theorem dX0_unitsBoundFor_0 : decode cX0_unitsBoundFor 0 = .ok (.iconst 0, 1) := by decide +kernel
theorem dX0_unitsBoundFor_1 : decode cX0_unitsBoundFor 1 = .ok (.istore_n 2, 1) := by decide +kernel
theorem dX0_unitsBoundFor_2 : decode cX0_unitsBoundFor 2 = .ok (.iconst 0, 1) := by decide +kernel
theorem dX0_unitsBoundFor_3 : decode cX0_unitsBoundFor 3 = .ok (.istore_n 3, 1) := by decide +kernel
theorem dX0_unitsBoundFor_4 : decode cX0_unitsBoundFor 4 = .ok (.iload_n 3, 1) := by decide +kernel
theorem dX0_unitsBoundFor_5 : decode cX0_unitsBoundFor 5 = .ok (.bipush 24, 2) := by decide +kernel
theorem dX0_unitsBoundFor_7 : decode cX0_unitsBoundFor 7 = .ok (.if_icmp .ge 26, 3) := by decide +kernel
theorem dX0_unitsBoundFor_10 : decode cX0_unitsBoundFor 10 = .ok (.aload_n 0, 1) := by decide +kernel
theorem dX0_unitsBoundFor_11 : decode cX0_unitsBoundFor 11 = .ok (.iload_n 3, 1) := by decide +kernel
theorem dX0_unitsBoundFor_12 : decode cX0_unitsBoundFor 12 = .ok (.invokevirtual 57, 3) := by decide +kernel
theorem dX0_unitsBoundFor_15 : decode cX0_unitsBoundFor 15 = .ok (.ifCond .eq 12, 3) := by decide +kernel
theorem dX0_unitsBoundFor_18 : decode cX0_unitsBoundFor 18 = .ok (.iload_n 2, 1) := by decide +kernel
theorem dX0_unitsBoundFor_19 : decode cX0_unitsBoundFor 19 = .ok (.aload_n 0, 1) := by decide +kernel
theorem dX0_unitsBoundFor_20 : decode cX0_unitsBoundFor 20 = .ok (.iload_n 3, 1) := by decide +kernel
theorem dX0_unitsBoundFor_21 : decode cX0_unitsBoundFor 21 = .ok (.iload_n 1, 1) := by decide +kernel
theorem dX0_unitsBoundFor_22 : decode cX0_unitsBoundFor 22 = .ok (.invokevirtual 61, 3) := by decide +kernel
theorem dX0_unitsBoundFor_25 : decode cX0_unitsBoundFor 25 = .ok (.iadd, 1) := by decide +kernel
theorem dX0_unitsBoundFor_26 : decode cX0_unitsBoundFor 26 = .ok (.istore_n 2, 1) := by decide +kernel
theorem dX0_unitsBoundFor_27 : decode cX0_unitsBoundFor 27 = .ok (.iinc 3 1, 3) := by decide +kernel
theorem dX0_unitsBoundFor_30 : decode cX0_unitsBoundFor 30 = .ok (.goto (-26), 3) := by decide +kernel
theorem dX0_unitsBoundFor_33 : decode cX0_unitsBoundFor 33 = .ok (.iload_n 2, 1) := by decide +kernel
theorem dX0_unitsBoundFor_34 : decode cX0_unitsBoundFor 34 = .ok (.ireturn, 1) := by decide +kernel
theorem dX0_uncarriedBoundFor_0 : decode cX0_uncarriedBoundFor 0 = .ok (.iconst 0, 1) := by decide +kernel
theorem dX0_uncarriedBoundFor_1 : decode cX0_uncarriedBoundFor 1 = .ok (.istore_n 3, 1) := by decide +kernel
theorem dX0_uncarriedBoundFor_2 : decode cX0_uncarriedBoundFor 2 = .ok (.aload_n 0, 1) := by decide +kernel
theorem dX0_uncarriedBoundFor_3 : decode cX0_uncarriedBoundFor 3 = .ok (.iload_n 1, 1) := by decide +kernel
theorem dX0_uncarriedBoundFor_4 : decode cX0_uncarriedBoundFor 4 = .ok (.invokevirtual 49, 3) := by decide +kernel
theorem dX0_uncarriedBoundFor_7 : decode cX0_uncarriedBoundFor 7 = .ok (.istore 4, 2) := by decide +kernel
theorem dX0_uncarriedBoundFor_9 : decode cX0_uncarriedBoundFor 9 = .ok (.iload 4, 2) := by decide +kernel
theorem dX0_uncarriedBoundFor_11 : decode cX0_uncarriedBoundFor 11 = .ok (.aload_n 0, 1) := by decide +kernel
theorem dX0_uncarriedBoundFor_12 : decode cX0_uncarriedBoundFor 12 = .ok (.iload_n 1, 1) := by decide +kernel
theorem dX0_uncarriedBoundFor_13 : decode cX0_uncarriedBoundFor 13 = .ok (.bipush 11, 2) := by decide +kernel
theorem dX0_uncarriedBoundFor_15 : decode cX0_uncarriedBoundFor 15 = .ok (.invokevirtual 40, 3) := by decide +kernel
theorem dX0_uncarriedBoundFor_18 : decode cX0_uncarriedBoundFor 18 = .ok (.isub, 1) := by decide +kernel
theorem dX0_uncarriedBoundFor_19 : decode cX0_uncarriedBoundFor 19 = .ok (.istore 5, 2) := by decide +kernel
theorem dX0_uncarriedBoundFor_21 : decode cX0_uncarriedBoundFor 21 = .ok (.iload 5, 2) := by decide +kernel
theorem dX0_uncarriedBoundFor_23 : decode cX0_uncarriedBoundFor 23 = .ok (.iload 4, 2) := by decide +kernel
theorem dX0_uncarriedBoundFor_25 : decode cX0_uncarriedBoundFor 25 = .ok (.if_icmp .ge 24, 3) := by decide +kernel
theorem dX0_uncarriedBoundFor_28 : decode cX0_uncarriedBoundFor 28 = .ok (.aload_n 0, 1) := by decide +kernel
theorem dX0_uncarriedBoundFor_29 : decode cX0_uncarriedBoundFor 29 = .ok (.iload_n 1, 1) := by decide +kernel
theorem dX0_uncarriedBoundFor_30 : decode cX0_uncarriedBoundFor 30 = .ok (.iload 5, 2) := by decide +kernel
theorem dX0_uncarriedBoundFor_32 : decode cX0_uncarriedBoundFor 32 = .ok (.iconst 1, 1) := by decide +kernel
theorem dX0_uncarriedBoundFor_33 : decode cX0_uncarriedBoundFor 33 = .ok (.invokevirtual 53, 3) := by decide +kernel
theorem dX0_uncarriedBoundFor_36 : decode cX0_uncarriedBoundFor 36 = .ok (.iload_n 2, 1) := by decide +kernel
theorem dX0_uncarriedBoundFor_37 : decode cX0_uncarriedBoundFor 37 = .ok (.if_icmp .ne 6, 3) := by decide +kernel
theorem dX0_uncarriedBoundFor_40 : decode cX0_uncarriedBoundFor 40 = .ok (.iinc 3 1, 3) := by decide +kernel
theorem dX0_uncarriedBoundFor_43 : decode cX0_uncarriedBoundFor 43 = .ok (.iinc 5 1, 3) := by decide +kernel
theorem dX0_uncarriedBoundFor_46 : decode cX0_uncarriedBoundFor 46 = .ok (.goto (-25), 3) := by decide +kernel
theorem dX0_uncarriedBoundFor_49 : decode cX0_uncarriedBoundFor 49 = .ok (.iload_n 3, 1) := by decide +kernel
theorem dX0_uncarriedBoundFor_50 : decode cX0_uncarriedBoundFor 50 = .ok (.ireturn, 1) := by decide +kernel
theorem dX0_engineLettersOf_0 : decode cX0_engineLettersOf 0 = .ok (.iconst 0, 1) := by decide +kernel
theorem dX0_engineLettersOf_1 : decode cX0_engineLettersOf 1 = .ok (.istore_n 2, 1) := by decide +kernel
theorem dX0_engineLettersOf_2 : decode cX0_engineLettersOf 2 = .ok (.iconst 0, 1) := by decide +kernel
theorem dX0_engineLettersOf_3 : decode cX0_engineLettersOf 3 = .ok (.istore_n 3, 1) := by decide +kernel
theorem dX0_engineLettersOf_4 : decode cX0_engineLettersOf 4 = .ok (.iload_n 3, 1) := by decide +kernel
theorem dX0_engineLettersOf_5 : decode cX0_engineLettersOf 5 = .ok (.bipush 6, 2) := by decide +kernel
theorem dX0_engineLettersOf_7 : decode cX0_engineLettersOf 7 = .ok (.if_icmp .ge 24, 3) := by decide +kernel
theorem dX0_engineLettersOf_10 : decode cX0_engineLettersOf 10 = .ok (.aload_n 0, 1) := by decide +kernel
theorem dX0_engineLettersOf_11 : decode cX0_engineLettersOf 11 = .ok (.iload_n 1, 1) := by decide +kernel
theorem dX0_engineLettersOf_12 : decode cX0_engineLettersOf 12 = .ok (.iload_n 3, 1) := by decide +kernel
theorem dX0_engineLettersOf_13 : decode cX0_engineLettersOf 13 = .ok (.invokestatic 64, 3) := by decide +kernel
theorem dX0_engineLettersOf_16 : decode cX0_engineLettersOf 16 = .ok (.invokevirtual 67, 3) := by decide +kernel
theorem dX0_engineLettersOf_19 : decode cX0_engineLettersOf 19 = .ok (.ifCond .eq 6, 3) := by decide +kernel
theorem dX0_engineLettersOf_22 : decode cX0_engineLettersOf 22 = .ok (.iinc 2 1, 3) := by decide +kernel
theorem dX0_engineLettersOf_25 : decode cX0_engineLettersOf 25 = .ok (.iinc 3 1, 3) := by decide +kernel
theorem dX0_engineLettersOf_28 : decode cX0_engineLettersOf 28 = .ok (.goto (-24), 3) := by decide +kernel
theorem dX0_engineLettersOf_31 : decode cX0_engineLettersOf 31 = .ok (.iload_n 2, 1) := by decide +kernel
theorem dX0_engineLettersOf_32 : decode cX0_engineLettersOf 32 = .ok (.ireturn, 1) := by decide +kernel
theorem dX0_engineLetters_0 : decode cX0_engineLetters 0 = .ok (.iconst 0, 1) := by decide +kernel
theorem dX0_engineLetters_1 : decode cX0_engineLetters 1 = .ok (.istore_n 1, 1) := by decide +kernel
theorem dX0_engineLetters_2 : decode cX0_engineLetters 2 = .ok (.iconst 0, 1) := by decide +kernel
theorem dX0_engineLetters_3 : decode cX0_engineLetters 3 = .ok (.istore_n 2, 1) := by decide +kernel
theorem dX0_engineLetters_4 : decode cX0_engineLetters 4 = .ok (.iload_n 2, 1) := by decide +kernel
theorem dX0_engineLetters_5 : decode cX0_engineLetters 5 = .ok (.iconst 4, 1) := by decide +kernel
theorem dX0_engineLetters_6 : decode cX0_engineLetters 6 = .ok (.if_icmp .ge 17, 3) := by decide +kernel
theorem dX0_engineLetters_9 : decode cX0_engineLetters 9 = .ok (.iload_n 1, 1) := by decide +kernel
theorem dX0_engineLetters_10 : decode cX0_engineLetters 10 = .ok (.aload_n 0, 1) := by decide +kernel
theorem dX0_engineLetters_11 : decode cX0_engineLetters 11 = .ok (.iload_n 2, 1) := by decide +kernel
theorem dX0_engineLetters_12 : decode cX0_engineLetters 12 = .ok (.invokevirtual 70, 3) := by decide +kernel
theorem dX0_engineLetters_15 : decode cX0_engineLetters 15 = .ok (.iadd, 1) := by decide +kernel
theorem dX0_engineLetters_16 : decode cX0_engineLetters 16 = .ok (.istore_n 1, 1) := by decide +kernel
theorem dX0_engineLetters_17 : decode cX0_engineLetters 17 = .ok (.iinc 2 1, 3) := by decide +kernel
theorem dX0_engineLetters_20 : decode cX0_engineLetters 20 = .ok (.goto (-16), 3) := by decide +kernel
theorem dX0_engineLetters_23 : decode cX0_engineLetters 23 = .ok (.iload_n 1, 1) := by decide +kernel
theorem dX0_engineLetters_24 : decode cX0_engineLetters 24 = .ok (.ireturn, 1) := by decide +kernel
theorem dX0_presentOf_0 : decode cX0_presentOf 0 = .ok (.iload_n 1, 1) := by decide +kernel
theorem dX0_presentOf_1 : decode cX0_presentOf 1 = .ok (.aload_n 0, 1) := by decide +kernel
theorem dX0_presentOf_2 : decode cX0_presentOf 2 = .ok (.iload_n 1, 1) := by decide +kernel
theorem dX0_presentOf_3 : decode cX0_presentOf 3 = .ok (.iconst 4, 1) := by decide +kernel
theorem dX0_presentOf_4 : decode cX0_presentOf 4 = .ok (.invokevirtual 73, 3) := by decide +kernel
theorem dX0_presentOf_7 : decode cX0_presentOf 7 = .ok (.invokestatic 64, 3) := by decide +kernel
theorem dX0_presentOf_10 : decode cX0_presentOf 10 = .ok (.istore_n 2, 1) := by decide +kernel
theorem dX0_presentOf_11 : decode cX0_presentOf 11 = .ok (.aload_n 0, 1) := by decide +kernel
theorem dX0_presentOf_12 : decode cX0_presentOf 12 = .ok (.iload_n 2, 1) := by decide +kernel
theorem dX0_presentOf_13 : decode cX0_presentOf 13 = .ok (.invokevirtual 57, 3) := by decide +kernel
theorem dX0_presentOf_16 : decode cX0_presentOf 16 = .ok (.ifCond .eq 7, 3) := by decide +kernel
theorem dX0_presentOf_19 : decode cX0_presentOf 19 = .ok (.iload_n 2, 1) := by decide +kernel
theorem dX0_presentOf_20 : decode cX0_presentOf 20 = .ok (.goto 5, 3) := by decide +kernel
theorem dX0_presentOf_23 : decode cX0_presentOf 23 = .ok (.bipush (-9), 2) := by decide +kernel
theorem dX0_presentOf_25 : decode cX0_presentOf 25 = .ok (.ireturn, 1) := by decide +kernel
theorem dX0_isReady_0 : decode cX0_isReady 0 = .ok (.aload_n 0, 1) := by decide +kernel
theorem dX0_isReady_1 : decode cX0_isReady 1 = .ok (.iload_n 1, 1) := by decide +kernel
theorem dX0_isReady_2 : decode cX0_isReady 2 = .ok (.invokevirtual 76, 3) := by decide +kernel
theorem dX0_isReady_5 : decode cX0_isReady 5 = .ok (.istore_n 2, 1) := by decide +kernel
theorem dX0_isReady_6 : decode cX0_isReady 6 = .ok (.iload_n 2, 1) := by decide +kernel
theorem dX0_isReady_7 : decode cX0_isReady 7 = .ok (.bipush (-9), 2) := by decide +kernel
theorem dX0_isReady_9 : decode cX0_isReady 9 = .ok (.if_icmp .eq 12, 3) := by decide +kernel
theorem dX0_isReady_12 : decode cX0_isReady 12 = .ok (.aload_n 0, 1) := by decide +kernel
theorem dX0_isReady_13 : decode cX0_isReady 13 = .ok (.iload_n 1, 1) := by decide +kernel
theorem dX0_isReady_14 : decode cX0_isReady 14 = .ok (.iconst 0, 1) := by decide +kernel
theorem dX0_isReady_15 : decode cX0_isReady 15 = .ok (.invokevirtual 73, 3) := by decide +kernel
theorem dX0_isReady_18 : decode cX0_isReady 18 = .ok (.ifCond .ne 5, 3) := by decide +kernel
theorem dX0_isReady_21 : decode cX0_isReady 21 = .ok (.iconst 0, 1) := by decide +kernel
theorem dX0_isReady_22 : decode cX0_isReady 22 = .ok (.ireturn, 1) := by decide +kernel
theorem dX0_isReady_23 : decode cX0_isReady 23 = .ok (.aload_n 0, 1) := by decide +kernel
theorem dX0_isReady_24 : decode cX0_isReady 24 = .ok (.getfield 24, 3) := by decide +kernel
theorem dX0_isReady_27 : decode cX0_isReady 27 = .ok (.iconst 4, 1) := by decide +kernel
theorem dX0_isReady_28 : decode cX0_isReady 28 = .ok (.if_icmp .lt 19, 3) := by decide +kernel
theorem dX0_isReady_31 : decode cX0_isReady 31 = .ok (.aload_n 0, 1) := by decide +kernel
theorem dX0_isReady_32 : decode cX0_isReady 32 = .ok (.iload_n 2, 1) := by decide +kernel
theorem dX0_isReady_33 : decode cX0_isReady 33 = .ok (.bipush 11, 2) := by decide +kernel
theorem dX0_isReady_35 : decode cX0_isReady 35 = .ok (.invokevirtual 40, 3) := by decide +kernel
theorem dX0_isReady_38 : decode cX0_isReady 38 = .ok (.aload_n 0, 1) := by decide +kernel
theorem dX0_isReady_39 : decode cX0_isReady 39 = .ok (.iload_n 1, 1) := by decide +kernel
theorem dX0_isReady_40 : decode cX0_isReady 40 = .ok (.iconst 2, 1) := by decide +kernel
theorem dX0_isReady_41 : decode cX0_isReady 41 = .ok (.invokevirtual 73, 3) := by decide +kernel
theorem dX0_isReady_44 : decode cX0_isReady 44 = .ok (.if_icmp .le 7, 3) := by decide +kernel
theorem dX0_isReady_47 : decode cX0_isReady 47 = .ok (.iconst 1, 1) := by decide +kernel
theorem dX0_isReady_48 : decode cX0_isReady 48 = .ok (.goto 4, 3) := by decide +kernel
theorem dX0_isReady_51 : decode cX0_isReady 51 = .ok (.iconst 0, 1) := by decide +kernel
theorem dX0_isReady_52 : decode cX0_isReady 52 = .ok (.ireturn, 1) := by decide +kernel
theorem dX0_take_0 : decode cX0_take 0 = .ok (.aload_n 1, 1) := by decide +kernel
theorem dX0_take_1 : decode cX0_take 1 = .ok (.iload_n 2, 1) := by decide +kernel
theorem dX0_take_2 : decode cX0_take 2 = .ok (.iconst 0, 1) := by decide +kernel
theorem dX0_take_3 : decode cX0_take 3 = .ok (.invokevirtual 79, 3) := by decide +kernel
theorem dX0_take_6 : decode cX0_take 6 = .ok (.istore_n 3, 1) := by decide +kernel
theorem dX0_take_7 : decode cX0_take 7 = .ok (.aload_n 1, 1) := by decide +kernel
theorem dX0_take_8 : decode cX0_take 8 = .ok (.iload_n 2, 1) := by decide +kernel
theorem dX0_take_9 : decode cX0_take 9 = .ok (.invokevirtual 84, 3) := by decide +kernel
theorem dX0_take_12 : decode cX0_take 12 = .ok (.lookupswitch 50 #[(102, 36), (108, 28)], 28) := by decide +kernel
theorem dX0_take_40 : decode cX0_take 40 = .ok (.aload_n 0, 1) := by decide +kernel
theorem dX0_take_41 : decode cX0_take 41 = .ok (.iload_n 3, 1) := by decide +kernel
theorem dX0_take_42 : decode cX0_take 42 = .ok (.aload_n 1, 1) := by decide +kernel
theorem dX0_take_43 : decode cX0_take 43 = .ok (.iload_n 2, 1) := by decide +kernel
theorem dX0_take_44 : decode cX0_take 44 = .ok (.invokevirtual 87, 3) := by decide +kernel
theorem dX0_take_47 : decode cX0_take 47 = .ok (.ireturn, 1) := by decide +kernel
theorem dX0_take_48 : decode cX0_take 48 = .ok (.aload_n 0, 1) := by decide +kernel
theorem dX0_take_49 : decode cX0_take 49 = .ok (.getfield 9, 3) := by decide +kernel
theorem dX0_take_52 : decode cX0_take 52 = .ok (.iload_n 3, 1) := by decide +kernel
theorem dX0_take_53 : decode cX0_take 53 = .ok (.aload_n 1, 1) := by decide +kernel
theorem dX0_take_54 : decode cX0_take 54 = .ok (.iload_n 2, 1) := by decide +kernel
theorem dX0_take_55 : decode cX0_take 55 = .ok (.iconst 1, 1) := by decide +kernel
theorem dX0_take_56 : decode cX0_take 56 = .ok (.invokevirtual 79, 3) := by decide +kernel
theorem dX0_take_59 : decode cX0_take 59 = .ok (.iastore, 1) := by decide +kernel
theorem dX0_take_60 : decode cX0_take 60 = .ok (.iconst 1, 1) := by decide +kernel
theorem dX0_take_61 : decode cX0_take 61 = .ok (.ireturn, 1) := by decide +kernel
theorem dX0_take_62 : decode cX0_take 62 = .ok (.aload_n 0, 1) := by decide +kernel
theorem dX0_take_63 : decode cX0_take 63 = .ok (.iload_n 3, 1) := by decide +kernel
theorem dX0_take_64 : decode cX0_take 64 = .ok (.iconst 1, 1) := by decide +kernel
theorem dX0_take_65 : decode cX0_take 65 = .ok (.aload_n 1, 1) := by decide +kernel
theorem dX0_take_66 : decode cX0_take 66 = .ok (.iload_n 2, 1) := by decide +kernel
theorem dX0_take_67 : decode cX0_take 67 = .ok (.iconst 1, 1) := by decide +kernel
theorem dX0_take_68 : decode cX0_take 68 = .ok (.invokevirtual 79, 3) := by decide +kernel
theorem dX0_take_71 : decode cX0_take 71 = .ok (.invokevirtual 91, 3) := by decide +kernel
theorem dX0_take_74 : decode cX0_take 74 = .ok (.aload_n 0, 1) := by decide +kernel
theorem dX0_take_75 : decode cX0_take 75 = .ok (.iload_n 3, 1) := by decide +kernel
theorem dX0_take_76 : decode cX0_take 76 = .ok (.iconst 2, 1) := by decide +kernel
theorem dX0_take_77 : decode cX0_take 77 = .ok (.aload_n 1, 1) := by decide +kernel
theorem dX0_take_78 : decode cX0_take 78 = .ok (.iload_n 2, 1) := by decide +kernel
theorem dX0_take_79 : decode cX0_take 79 = .ok (.iconst 2, 1) := by decide +kernel
theorem dX0_take_80 : decode cX0_take 80 = .ok (.invokevirtual 79, 3) := by decide +kernel
theorem dX0_take_83 : decode cX0_take 83 = .ok (.invokevirtual 91, 3) := by decide +kernel
theorem dX0_take_86 : decode cX0_take 86 = .ok (.iconst 1, 1) := by decide +kernel
theorem dX0_take_87 : decode cX0_take 87 = .ok (.ireturn, 1) := by decide +kernel
theorem dX0_post_0 : decode cX0_post 0 = .ok (.aload_n 0, 1) := by decide +kernel
theorem dX0_post_1 : decode cX0_post 1 = .ok (.iload_n 1, 1) := by decide +kernel
theorem dX0_post_2 : decode cX0_post 2 = .ok (.iconst 3, 1) := by decide +kernel
theorem dX0_post_3 : decode cX0_post 3 = .ok (.invokevirtual 73, 3) := by decide +kernel
theorem dX0_post_6 : decode cX0_post 6 = .ok (.istore 4, 2) := by decide +kernel
theorem dX0_post_8 : decode cX0_post 8 = .ok (.iload_n 1, 1) := by decide +kernel
theorem dX0_post_9 : decode cX0_post 9 = .ok (.iload 4, 2) := by decide +kernel
theorem dX0_post_11 : decode cX0_post 11 = .ok (.invokestatic 64, 3) := by decide +kernel
theorem dX0_post_14 : decode cX0_post 14 = .ok (.istore 5, 2) := by decide +kernel
theorem dX0_post_16 : decode cX0_post 16 = .ok (.aload_n 0, 1) := by decide +kernel
theorem dX0_post_17 : decode cX0_post 17 = .ok (.iload 5, 2) := by decide +kernel
theorem dX0_post_19 : decode cX0_post 19 = .ok (.invokevirtual 67, 3) := by decide +kernel
theorem dX0_post_22 : decode cX0_post 22 = .ok (.ifCond .eq 5, 3) := by decide +kernel
theorem dX0_post_25 : decode cX0_post 25 = .ok (.iconst 0, 1) := by decide +kernel
theorem dX0_post_26 : decode cX0_post 26 = .ok (.ireturn, 1) := by decide +kernel
theorem dX0_post_27 : decode cX0_post 27 = .ok (.iconst 0, 1) := by decide +kernel
theorem dX0_post_28 : decode cX0_post 28 = .ok (.istore 6, 2) := by decide +kernel
theorem dX0_post_30 : decode cX0_post 30 = .ok (.iload 6, 2) := by decide +kernel
theorem dX0_post_32 : decode cX0_post 32 = .ok (.bipush 9, 2) := by decide +kernel
theorem dX0_post_34 : decode cX0_post 34 = .ok (.if_icmp .ge 26, 3) := by decide +kernel
theorem dX0_post_37 : decode cX0_post 37 = .ok (.aload_n 0, 1) := by decide +kernel
theorem dX0_post_38 : decode cX0_post 38 = .ok (.iload 5, 2) := by decide +kernel
theorem dX0_post_40 : decode cX0_post 40 = .ok (.iload 6, 2) := by decide +kernel
theorem dX0_post_42 : decode cX0_post 42 = .ok (.aload_n 2, 1) := by decide +kernel
theorem dX0_post_43 : decode cX0_post 43 = .ok (.iload_n 3, 1) := by decide +kernel
theorem dX0_post_44 : decode cX0_post 44 = .ok (.iconst 1, 1) := by decide +kernel
theorem dX0_post_45 : decode cX0_post 45 = .ok (.iload 6, 2) := by decide +kernel
theorem dX0_post_47 : decode cX0_post 47 = .ok (.iadd, 1) := by decide +kernel
theorem dX0_post_48 : decode cX0_post 48 = .ok (.invokevirtual 79, 3) := by decide +kernel
theorem dX0_post_51 : decode cX0_post 51 = .ok (.invokevirtual 95, 3) := by decide +kernel
theorem dX0_post_54 : decode cX0_post 54 = .ok (.iinc 6 1, 3) := by decide +kernel
theorem dX0_post_57 : decode cX0_post 57 = .ok (.goto (-27), 3) := by decide +kernel
theorem dX0_post_60 : decode cX0_post 60 = .ok (.aload_n 0, 1) := by decide +kernel
theorem dX0_post_61 : decode cX0_post 61 = .ok (.iload 5, 2) := by decide +kernel
theorem dX0_post_63 : decode cX0_post 63 = .ok (.bipush 9, 2) := by decide +kernel
theorem dX0_post_65 : decode cX0_post 65 = .ok (.iconst 1, 1) := by decide +kernel
theorem dX0_post_66 : decode cX0_post 66 = .ok (.invokevirtual 95, 3) := by decide +kernel
theorem dX0_post_69 : decode cX0_post 69 = .ok (.aload_n 0, 1) := by decide +kernel
theorem dX0_post_70 : decode cX0_post 70 = .ok (.iload 5, 2) := by decide +kernel
theorem dX0_post_72 : decode cX0_post 72 = .ok (.bipush 10, 2) := by decide +kernel
theorem dX0_post_74 : decode cX0_post 74 = .ok (.iconst 0, 1) := by decide +kernel
theorem dX0_post_75 : decode cX0_post 75 = .ok (.invokevirtual 95, 3) := by decide +kernel
theorem dX0_post_78 : decode cX0_post 78 = .ok (.aload_n 0, 1) := by decide +kernel
theorem dX0_post_79 : decode cX0_post 79 = .ok (.iload 5, 2) := by decide +kernel
theorem dX0_post_81 : decode cX0_post 81 = .ok (.bipush 11, 2) := by decide +kernel
theorem dX0_post_83 : decode cX0_post 83 = .ok (.aload_n 0, 1) := by decide +kernel
theorem dX0_post_84 : decode cX0_post 84 = .ok (.iload 5, 2) := by decide +kernel
theorem dX0_post_86 : decode cX0_post 86 = .ok (.invokevirtual 49, 3) := by decide +kernel
theorem dX0_post_89 : decode cX0_post 89 = .ok (.invokevirtual 95, 3) := by decide +kernel
theorem dX0_post_92 : decode cX0_post 92 = .ok (.aload_n 0, 1) := by decide +kernel
theorem dX0_post_93 : decode cX0_post 93 = .ok (.iload 5, 2) := by decide +kernel
theorem dX0_post_95 : decode cX0_post 95 = .ok (.bipush 12, 2) := by decide +kernel
theorem dX0_post_97 : decode cX0_post 97 = .ok (.iconst 0, 1) := by decide +kernel
theorem dX0_post_98 : decode cX0_post 98 = .ok (.invokevirtual 95, 3) := by decide +kernel
theorem dX0_post_101 : decode cX0_post 101 = .ok (.aload_n 0, 1) := by decide +kernel
theorem dX0_post_102 : decode cX0_post 102 = .ok (.iload_n 1, 1) := by decide +kernel
theorem dX0_post_103 : decode cX0_post 103 = .ok (.iconst 3, 1) := by decide +kernel
theorem dX0_post_104 : decode cX0_post 104 = .ok (.iload 4, 2) := by decide +kernel
theorem dX0_post_106 : decode cX0_post 106 = .ok (.invokestatic 98, 3) := by decide +kernel
theorem dX0_post_109 : decode cX0_post 109 = .ok (.invokevirtual 91, 3) := by decide +kernel
theorem dX0_post_112 : decode cX0_post 112 = .ok (.iconst 1, 1) := by decide +kernel
theorem dX0_post_113 : decode cX0_post 113 = .ok (.ireturn, 1) := by decide +kernel
theorem dX0_tick_0 : decode cX0_tick 0 = .ok (.aload_n 0, 1) := by decide +kernel
theorem dX0_tick_1 : decode cX0_tick 1 = .ok (.dup, 1) := by decide +kernel
theorem dX0_tick_2 : decode cX0_tick 2 = .ok (.getfield 31, 3) := by decide +kernel
theorem dX0_tick_5 : decode cX0_tick 5 = .ok (.iconst 1, 1) := by decide +kernel
theorem dX0_tick_6 : decode cX0_tick 6 = .ok (.iadd, 1) := by decide +kernel
theorem dX0_tick_7 : decode cX0_tick 7 = .ok (.putfield 31, 3) := by decide +kernel
theorem dX0_tick_10 : decode cX0_tick 10 = .ok (.aload_n 0, 1) := by decide +kernel
theorem dX0_tick_11 : decode cX0_tick 11 = .ok (.getfield 24, 3) := by decide +kernel
theorem dX0_tick_14 : decode cX0_tick 14 = .ok (.ifCond .le 8, 3) := by decide +kernel
theorem dX0_tick_17 : decode cX0_tick 17 = .ok (.aload_n 0, 1) := by decide +kernel
theorem dX0_tick_18 : decode cX0_tick 18 = .ok (.iconst 0, 1) := by decide +kernel
theorem dX0_tick_19 : decode cX0_tick 19 = .ok (.invokevirtual 101, 3) := by decide +kernel
theorem dX0_tick_22 : decode cX0_tick 22 = .ok (.aload_n 0, 1) := by decide +kernel
theorem dX0_tick_23 : decode cX0_tick 23 = .ok (.invokevirtual 105, 3) := by decide +kernel
theorem dX0_tick_26 : decode cX0_tick 26 = .ok (.istore_n 2, 1) := by decide +kernel
theorem dX0_tick_27 : decode cX0_tick 27 = .ok (.iload_n 2, 1) := by decide +kernel
theorem dX0_tick_28 : decode cX0_tick 28 = .ok (.bipush (-9), 2) := by decide +kernel
theorem dX0_tick_30 : decode cX0_tick 30 = .ok (.if_icmp .eq 9, 3) := by decide +kernel
theorem dX0_tick_33 : decode cX0_tick 33 = .ok (.aload_n 0, 1) := by decide +kernel
theorem dX0_tick_34 : decode cX0_tick 34 = .ok (.iload_n 2, 1) := by decide +kernel
theorem dX0_tick_35 : decode cX0_tick 35 = .ok (.iload_n 1, 1) := by decide +kernel
theorem dX0_tick_36 : decode cX0_tick 36 = .ok (.invokevirtual 109, 3) := by decide +kernel
theorem dX0_tick_39 : decode cX0_tick 39 = .ok (.iload_n 2, 1) := by decide +kernel
theorem dX0_tick_40 : decode cX0_tick 40 = .ok (.ireturn, 1) := by decide +kernel
theorem dX0_writeBack_0 : decode cX0_writeBack 0 = .ok (.aload_n 0, 1) := by decide +kernel
theorem dX0_writeBack_1 : decode cX0_writeBack 1 = .ok (.getfield 21, 3) := by decide +kernel
theorem dX0_writeBack_4 : decode cX0_writeBack 4 = .ok (.iload_n 1, 1) := by decide +kernel
theorem dX0_writeBack_5 : decode cX0_writeBack 5 = .ok (.iaload, 1) := by decide +kernel
theorem dX0_writeBack_6 : decode cX0_writeBack 6 = .ok (.istore_n 2, 1) := by decide +kernel
theorem dX0_writeBack_7 : decode cX0_writeBack 7 = .ok (.aload_n 0, 1) := by decide +kernel
theorem dX0_writeBack_8 : decode cX0_writeBack 8 = .ok (.iload_n 2, 1) := by decide +kernel
theorem dX0_writeBack_9 : decode cX0_writeBack 9 = .ok (.bipush 9, 2) := by decide +kernel
theorem dX0_writeBack_11 : decode cX0_writeBack 11 = .ok (.iconst 0, 1) := by decide +kernel
theorem dX0_writeBack_12 : decode cX0_writeBack 12 = .ok (.invokevirtual 95, 3) := by decide +kernel
theorem dX0_writeBack_15 : decode cX0_writeBack 15 = .ok (.aload_n 0, 1) := by decide +kernel
theorem dX0_writeBack_16 : decode cX0_writeBack 16 = .ok (.iload_n 2, 1) := by decide +kernel
theorem dX0_writeBack_17 : decode cX0_writeBack 17 = .ok (.bipush 10, 2) := by decide +kernel
theorem dX0_writeBack_19 : decode cX0_writeBack 19 = .ok (.iconst 1, 1) := by decide +kernel
theorem dX0_writeBack_20 : decode cX0_writeBack 20 = .ok (.invokevirtual 95, 3) := by decide +kernel
theorem dX0_writeBack_23 : decode cX0_writeBack 23 = .ok (.aload_n 0, 1) := by decide +kernel
theorem dX0_writeBack_24 : decode cX0_writeBack 24 = .ok (.iload_n 2, 1) := by decide +kernel
theorem dX0_writeBack_25 : decode cX0_writeBack 25 = .ok (.bipush 12, 2) := by decide +kernel
theorem dX0_writeBack_27 : decode cX0_writeBack 27 = .ok (.iconst 0, 1) := by decide +kernel
theorem dX0_writeBack_28 : decode cX0_writeBack 28 = .ok (.invokevirtual 95, 3) := by decide +kernel
theorem dX0_writeBack_31 : decode cX0_writeBack 31 = .ok (.aload_n 0, 1) := by decide +kernel
theorem dX0_writeBack_32 : decode cX0_writeBack 32 = .ok (.iload_n 2, 1) := by decide +kernel
theorem dX0_writeBack_33 : decode cX0_writeBack 33 = .ok (.bipush 8, 2) := by decide +kernel
theorem dX0_writeBack_35 : decode cX0_writeBack 35 = .ok (.invokevirtual 40, 3) := by decide +kernel
theorem dX0_writeBack_38 : decode cX0_writeBack 38 = .ok (.ifCond .ne 12, 3) := by decide +kernel
theorem dX0_writeBack_41 : decode cX0_writeBack 41 = .ok (.aload_n 0, 1) := by decide +kernel
theorem dX0_writeBack_42 : decode cX0_writeBack 42 = .ok (.iload_n 2, 1) := by decide +kernel
theorem dX0_writeBack_43 : decode cX0_writeBack 43 = .ok (.bipush 6, 2) := by decide +kernel
theorem dX0_writeBack_45 : decode cX0_writeBack 45 = .ok (.idiv, 1) := by decide +kernel
theorem dX0_writeBack_46 : decode cX0_writeBack 46 = .ok (.iconst 5, 1) := by decide +kernel
theorem dX0_writeBack_47 : decode cX0_writeBack 47 = .ok (.invokevirtual 113, 3) := by decide +kernel
theorem dX0_writeBack_50 : decode cX0_writeBack 50 = .ok (.aload_n 0, 1) := by decide +kernel
theorem dX0_writeBack_51 : decode cX0_writeBack 51 = .ok (.dup, 1) := by decide +kernel
theorem dX0_writeBack_52 : decode cX0_writeBack 52 = .ok (.getfield 24, 3) := by decide +kernel
theorem dX0_writeBack_55 : decode cX0_writeBack 55 = .ok (.iconst 1, 1) := by decide +kernel
theorem dX0_writeBack_56 : decode cX0_writeBack 56 = .ok (.isub, 1) := by decide +kernel
theorem dX0_writeBack_57 : decode cX0_writeBack 57 = .ok (.putfield 24, 3) := by decide +kernel
theorem dX0_writeBack_60 : decode cX0_writeBack 60 = .ok (.iload_n 1, 1) := by decide +kernel
theorem dX0_writeBack_61 : decode cX0_writeBack 61 = .ok (.istore_n 3, 1) := by decide +kernel
theorem dX0_writeBack_62 : decode cX0_writeBack 62 = .ok (.iload_n 3, 1) := by decide +kernel
theorem dX0_writeBack_63 : decode cX0_writeBack 63 = .ok (.aload_n 0, 1) := by decide +kernel
theorem dX0_writeBack_64 : decode cX0_writeBack 64 = .ok (.getfield 24, 3) := by decide +kernel
theorem dX0_writeBack_67 : decode cX0_writeBack 67 = .ok (.if_icmp .ge 23, 3) := by decide +kernel
theorem dX0_writeBack_70 : decode cX0_writeBack 70 = .ok (.aload_n 0, 1) := by decide +kernel
theorem dX0_writeBack_71 : decode cX0_writeBack 71 = .ok (.getfield 21, 3) := by decide +kernel
theorem dX0_writeBack_74 : decode cX0_writeBack 74 = .ok (.iload_n 3, 1) := by decide +kernel
theorem dX0_writeBack_75 : decode cX0_writeBack 75 = .ok (.aload_n 0, 1) := by decide +kernel
theorem dX0_writeBack_76 : decode cX0_writeBack 76 = .ok (.getfield 21, 3) := by decide +kernel
theorem dX0_writeBack_79 : decode cX0_writeBack 79 = .ok (.iload_n 3, 1) := by decide +kernel
theorem dX0_writeBack_80 : decode cX0_writeBack 80 = .ok (.iconst 1, 1) := by decide +kernel
theorem dX0_writeBack_81 : decode cX0_writeBack 81 = .ok (.iadd, 1) := by decide +kernel
theorem dX0_writeBack_82 : decode cX0_writeBack 82 = .ok (.iaload, 1) := by decide +kernel
theorem dX0_writeBack_83 : decode cX0_writeBack 83 = .ok (.iastore, 1) := by decide +kernel
theorem dX0_writeBack_84 : decode cX0_writeBack 84 = .ok (.iinc 3 1, 3) := by decide +kernel
theorem dX0_writeBack_87 : decode cX0_writeBack 87 = .ok (.goto (-25), 3) := by decide +kernel
theorem dX0_writeBack_90 : decode cX0_writeBack 90 = .ok (.return_, 1) := by decide +kernel
theorem dX0_nextToGrant_0 : decode cX0_nextToGrant 0 = .ok (.bipush (-9), 2) := by decide +kernel
theorem dX0_nextToGrant_2 : decode cX0_nextToGrant 2 = .ok (.istore_n 1, 1) := by decide +kernel
theorem dX0_nextToGrant_3 : decode cX0_nextToGrant 3 = .ok (.iconst 1, 1) := by decide +kernel
theorem dX0_nextToGrant_4 : decode cX0_nextToGrant 4 = .ok (.istore_n 2, 1) := by decide +kernel
theorem dX0_nextToGrant_5 : decode cX0_nextToGrant 5 = .ok (.iload_n 2, 1) := by decide +kernel
theorem dX0_nextToGrant_6 : decode cX0_nextToGrant 6 = .ok (.iconst 4, 1) := by decide +kernel
theorem dX0_nextToGrant_7 : decode cX0_nextToGrant 7 = .ok (.if_icmp .gt 49, 3) := by decide +kernel
theorem dX0_nextToGrant_10 : decode cX0_nextToGrant 10 = .ok (.aload_n 0, 1) := by decide +kernel
theorem dX0_nextToGrant_11 : decode cX0_nextToGrant 11 = .ok (.getfield 28, 3) := by decide +kernel
theorem dX0_nextToGrant_14 : decode cX0_nextToGrant 14 = .ok (.iload_n 2, 1) := by decide +kernel
theorem dX0_nextToGrant_15 : decode cX0_nextToGrant 15 = .ok (.iadd, 1) := by decide +kernel
theorem dX0_nextToGrant_16 : decode cX0_nextToGrant 16 = .ok (.iconst 4, 1) := by decide +kernel
theorem dX0_nextToGrant_17 : decode cX0_nextToGrant 17 = .ok (.irem, 1) := by decide +kernel
theorem dX0_nextToGrant_18 : decode cX0_nextToGrant 18 = .ok (.istore_n 3, 1) := by decide +kernel
theorem dX0_nextToGrant_19 : decode cX0_nextToGrant 19 = .ok (.aload_n 0, 1) := by decide +kernel
theorem dX0_nextToGrant_20 : decode cX0_nextToGrant 20 = .ok (.iload_n 3, 1) := by decide +kernel
theorem dX0_nextToGrant_21 : decode cX0_nextToGrant 21 = .ok (.invokevirtual 117, 3) := by decide +kernel
theorem dX0_nextToGrant_24 : decode cX0_nextToGrant 24 = .ok (.ifCond .eq 26, 3) := by decide +kernel
theorem dX0_nextToGrant_27 : decode cX0_nextToGrant 27 = .ok (.iload_n 1, 1) := by decide +kernel
theorem dX0_nextToGrant_28 : decode cX0_nextToGrant 28 = .ok (.bipush (-9), 2) := by decide +kernel
theorem dX0_nextToGrant_30 : decode cX0_nextToGrant 30 = .ok (.if_icmp .eq 18, 3) := by decide +kernel
theorem dX0_nextToGrant_33 : decode cX0_nextToGrant 33 = .ok (.aload_n 0, 1) := by decide +kernel
theorem dX0_nextToGrant_34 : decode cX0_nextToGrant 34 = .ok (.iload_n 3, 1) := by decide +kernel
theorem dX0_nextToGrant_35 : decode cX0_nextToGrant 35 = .ok (.iconst 1, 1) := by decide +kernel
theorem dX0_nextToGrant_36 : decode cX0_nextToGrant 36 = .ok (.invokevirtual 73, 3) := by decide +kernel
theorem dX0_nextToGrant_39 : decode cX0_nextToGrant 39 = .ok (.aload_n 0, 1) := by decide +kernel
theorem dX0_nextToGrant_40 : decode cX0_nextToGrant 40 = .ok (.iload_n 1, 1) := by decide +kernel
theorem dX0_nextToGrant_41 : decode cX0_nextToGrant 41 = .ok (.iconst 1, 1) := by decide +kernel
theorem dX0_nextToGrant_42 : decode cX0_nextToGrant 42 = .ok (.invokevirtual 73, 3) := by decide +kernel
theorem dX0_nextToGrant_45 : decode cX0_nextToGrant 45 = .ok (.if_icmp .le 5, 3) := by decide +kernel
theorem dX0_nextToGrant_48 : decode cX0_nextToGrant 48 = .ok (.iload_n 3, 1) := by decide +kernel
theorem dX0_nextToGrant_49 : decode cX0_nextToGrant 49 = .ok (.istore_n 1, 1) := by decide +kernel
theorem dX0_nextToGrant_50 : decode cX0_nextToGrant 50 = .ok (.iinc 2 1, 3) := by decide +kernel
theorem dX0_nextToGrant_53 : decode cX0_nextToGrant 53 = .ok (.goto (-48), 3) := by decide +kernel
theorem dX0_nextToGrant_56 : decode cX0_nextToGrant 56 = .ok (.iload_n 1, 1) := by decide +kernel
theorem dX0_nextToGrant_57 : decode cX0_nextToGrant 57 = .ok (.ireturn, 1) := by decide +kernel
theorem dX0_grant_0 : decode cX0_grant 0 = .ok (.aload_n 0, 1) := by decide +kernel
theorem dX0_grant_1 : decode cX0_grant 1 = .ok (.iload_n 1, 1) := by decide +kernel
theorem dX0_grant_2 : decode cX0_grant 2 = .ok (.invokevirtual 76, 3) := by decide +kernel
theorem dX0_grant_5 : decode cX0_grant 5 = .ok (.istore_n 3, 1) := by decide +kernel
theorem dX0_grant_6 : decode cX0_grant 6 = .ok (.iload_n 3, 1) := by decide +kernel
theorem dX0_grant_7 : decode cX0_grant 7 = .ok (.bipush (-9), 2) := by decide +kernel
theorem dX0_grant_9 : decode cX0_grant 9 = .ok (.if_icmp .ne 4, 3) := by decide +kernel
theorem dX0_grant_12 : decode cX0_grant 12 = .ok (.return_, 1) := by decide +kernel
theorem dX0_grant_13 : decode cX0_grant 13 = .ok (.aload_n 0, 1) := by decide +kernel
theorem dX0_grant_14 : decode cX0_grant 14 = .ok (.iload_n 1, 1) := by decide +kernel
theorem dX0_grant_15 : decode cX0_grant 15 = .ok (.putfield 28, 3) := by decide +kernel
theorem dX0_grant_18 : decode cX0_grant 18 = .ok (.aload_n 0, 1) := by decide +kernel
theorem dX0_grant_19 : decode cX0_grant 19 = .ok (.iload_n 1, 1) := by decide +kernel
theorem dX0_grant_20 : decode cX0_grant 20 = .ok (.bipush 6, 2) := by decide +kernel
theorem dX0_grant_22 : decode cX0_grant 22 = .ok (.invokevirtual 113, 3) := by decide +kernel
theorem dX0_grant_25 : decode cX0_grant 25 = .ok (.aload_n 0, 1) := by decide +kernel
theorem dX0_grant_26 : decode cX0_grant 26 = .ok (.iload_n 3, 1) := by decide +kernel
theorem dX0_grant_27 : decode cX0_grant 27 = .ok (.bipush 11, 2) := by decide +kernel
theorem dX0_grant_29 : decode cX0_grant 29 = .ok (.invokevirtual 40, 3) := by decide +kernel
theorem dX0_grant_32 : decode cX0_grant 32 = .ok (.istore 4, 2) := by decide +kernel
theorem dX0_grant_34 : decode cX0_grant 34 = .ok (.aload_n 0, 1) := by decide +kernel
theorem dX0_grant_35 : decode cX0_grant 35 = .ok (.iload_n 1, 1) := by decide +kernel
theorem dX0_grant_36 : decode cX0_grant 36 = .ok (.iconst 2, 1) := by decide +kernel
theorem dX0_grant_37 : decode cX0_grant 37 = .ok (.invokevirtual 73, 3) := by decide +kernel
theorem dX0_grant_40 : decode cX0_grant 40 = .ok (.iload 4, 2) := by decide +kernel
theorem dX0_grant_42 : decode cX0_grant 42 = .ok (.invokestatic 120, 3) := by decide +kernel
theorem dX0_grant_45 : decode cX0_grant 45 = .ok (.istore 5, 2) := by decide +kernel
theorem dX0_grant_47 : decode cX0_grant 47 = .ok (.iload_n 2, 1) := by decide +kernel
theorem dX0_grant_48 : decode cX0_grant 48 = .ok (.ifCond .eq 18, 3) := by decide +kernel
theorem dX0_grant_51 : decode cX0_grant 51 = .ok (.aload_n 0, 1) := by decide +kernel
theorem dX0_grant_52 : decode cX0_grant 52 = .ok (.iload_n 3, 1) := by decide +kernel
theorem dX0_grant_53 : decode cX0_grant 53 = .ok (.aload_n 0, 1) := by decide +kernel
theorem dX0_grant_54 : decode cX0_grant 54 = .ok (.iload_n 3, 1) := by decide +kernel
theorem dX0_grant_55 : decode cX0_grant 55 = .ok (.invokevirtual 49, 3) := by decide +kernel
theorem dX0_grant_58 : decode cX0_grant 58 = .ok (.iload 4, 2) := by decide +kernel
theorem dX0_grant_60 : decode cX0_grant 60 = .ok (.isub, 1) := by decide +kernel
theorem dX0_grant_61 : decode cX0_grant 61 = .ok (.iload 5, 2) := by decide +kernel
theorem dX0_grant_63 : decode cX0_grant 63 = .ok (.invokevirtual 123, 3) := by decide +kernel
theorem dX0_grant_66 : decode cX0_grant 66 = .ok (.aload_n 0, 1) := by decide +kernel
theorem dX0_grant_67 : decode cX0_grant 67 = .ok (.iload_n 3, 1) := by decide +kernel
theorem dX0_grant_68 : decode cX0_grant 68 = .ok (.bipush 11, 2) := by decide +kernel
theorem dX0_grant_70 : decode cX0_grant 70 = .ok (.iload 4, 2) := by decide +kernel
theorem dX0_grant_72 : decode cX0_grant 72 = .ok (.iload 5, 2) := by decide +kernel
theorem dX0_grant_74 : decode cX0_grant 74 = .ok (.isub, 1) := by decide +kernel
theorem dX0_grant_75 : decode cX0_grant 75 = .ok (.invokevirtual 95, 3) := by decide +kernel
theorem dX0_grant_78 : decode cX0_grant 78 = .ok (.iload 4, 2) := by decide +kernel
theorem dX0_grant_80 : decode cX0_grant 80 = .ok (.iload 5, 2) := by decide +kernel
theorem dX0_grant_82 : decode cX0_grant 82 = .ok (.if_icmp .ne 9, 3) := by decide +kernel
theorem dX0_grant_85 : decode cX0_grant 85 = .ok (.aload_n 0, 1) := by decide +kernel
theorem dX0_grant_86 : decode cX0_grant 86 = .ok (.iload_n 1, 1) := by decide +kernel
theorem dX0_grant_87 : decode cX0_grant 87 = .ok (.iload_n 3, 1) := by decide +kernel
theorem dX0_grant_88 : decode cX0_grant 88 = .ok (.invokevirtual 126, 3) := by decide +kernel
theorem dX0_grant_91 : decode cX0_grant 91 = .ok (.return_, 1) := by decide +kernel
theorem dX0_carry_0 : decode cX0_carry 0 = .ok (.iload_n 2, 1) := by decide +kernel
theorem dX0_carry_1 : decode cX0_carry 1 = .ok (.istore 4, 2) := by decide +kernel
theorem dX0_carry_3 : decode cX0_carry 3 = .ok (.iload 4, 2) := by decide +kernel
theorem dX0_carry_5 : decode cX0_carry 5 = .ok (.iload_n 2, 1) := by decide +kernel
theorem dX0_carry_6 : decode cX0_carry 6 = .ok (.iload_n 3, 1) := by decide +kernel
theorem dX0_carry_7 : decode cX0_carry 7 = .ok (.iadd, 1) := by decide +kernel
theorem dX0_carry_8 : decode cX0_carry 8 = .ok (.if_icmp .ge 35, 3) := by decide +kernel
theorem dX0_carry_11 : decode cX0_carry 11 = .ok (.aload_n 0, 1) := by decide +kernel
theorem dX0_carry_12 : decode cX0_carry 12 = .ok (.getfield 9, 3) := by decide +kernel
theorem dX0_carry_15 : decode cX0_carry 15 = .ok (.aload_n 0, 1) := by decide +kernel
theorem dX0_carry_16 : decode cX0_carry 16 = .ok (.iload_n 1, 1) := by decide +kernel
theorem dX0_carry_17 : decode cX0_carry 17 = .ok (.iload 4, 2) := by decide +kernel
theorem dX0_carry_19 : decode cX0_carry 19 = .ok (.iconst 1, 1) := by decide +kernel
theorem dX0_carry_20 : decode cX0_carry 20 = .ok (.invokevirtual 53, 3) := by decide +kernel
theorem dX0_carry_23 : decode cX0_carry 23 = .ok (.aload_n 0, 1) := by decide +kernel
theorem dX0_carry_24 : decode cX0_carry 24 = .ok (.getfield 9, 3) := by decide +kernel
theorem dX0_carry_27 : decode cX0_carry 27 = .ok (.aload_n 0, 1) := by decide +kernel
theorem dX0_carry_28 : decode cX0_carry 28 = .ok (.iload_n 1, 1) := by decide +kernel
theorem dX0_carry_29 : decode cX0_carry 29 = .ok (.iload 4, 2) := by decide +kernel
theorem dX0_carry_31 : decode cX0_carry 31 = .ok (.iconst 0, 1) := by decide +kernel
theorem dX0_carry_32 : decode cX0_carry 32 = .ok (.invokevirtual 53, 3) := by decide +kernel
theorem dX0_carry_35 : decode cX0_carry 35 = .ok (.iaload, 1) := by decide +kernel
theorem dX0_carry_36 : decode cX0_carry 36 = .ok (.iastore, 1) := by decide +kernel
theorem dX0_carry_37 : decode cX0_carry 37 = .ok (.iinc 4 1, 3) := by decide +kernel
theorem dX0_carry_40 : decode cX0_carry 40 = .ok (.goto (-37), 3) := by decide +kernel
theorem dX0_carry_43 : decode cX0_carry 43 = .ok (.return_, 1) := by decide +kernel
theorem dX0_letWait_0 : decode cX0_letWait 0 = .ok (.aload_n 0, 1) := by decide +kernel
theorem dX0_letWait_1 : decode cX0_letWait 1 = .ok (.iload_n 2, 1) := by decide +kernel
theorem dX0_letWait_2 : decode cX0_letWait 2 = .ok (.bipush 12, 2) := by decide +kernel
theorem dX0_letWait_4 : decode cX0_letWait 4 = .ok (.iconst 1, 1) := by decide +kernel
theorem dX0_letWait_5 : decode cX0_letWait 5 = .ok (.invokevirtual 95, 3) := by decide +kernel
theorem dX0_letWait_8 : decode cX0_letWait 8 = .ok (.aload_n 0, 1) := by decide +kernel
theorem dX0_letWait_9 : decode cX0_letWait 9 = .ok (.getfield 24, 3) := by decide +kernel
theorem dX0_letWait_12 : decode cX0_letWait 12 = .ok (.bipush 24, 2) := by decide +kernel
theorem dX0_letWait_14 : decode cX0_letWait 14 = .ok (.if_icmp .ge 23, 3) := by decide +kernel
theorem dX0_letWait_17 : decode cX0_letWait 17 = .ok (.aload_n 0, 1) := by decide +kernel
theorem dX0_letWait_18 : decode cX0_letWait 18 = .ok (.getfield 21, 3) := by decide +kernel
theorem dX0_letWait_21 : decode cX0_letWait 21 = .ok (.aload_n 0, 1) := by decide +kernel
theorem dX0_letWait_22 : decode cX0_letWait 22 = .ok (.getfield 24, 3) := by decide +kernel
theorem dX0_letWait_25 : decode cX0_letWait 25 = .ok (.iload_n 2, 1) := by decide +kernel
theorem dX0_letWait_26 : decode cX0_letWait 26 = .ok (.iastore, 1) := by decide +kernel
theorem dX0_letWait_27 : decode cX0_letWait 27 = .ok (.aload_n 0, 1) := by decide +kernel
theorem dX0_letWait_28 : decode cX0_letWait 28 = .ok (.dup, 1) := by decide +kernel
theorem dX0_letWait_29 : decode cX0_letWait 29 = .ok (.getfield 24, 3) := by decide +kernel
theorem dX0_letWait_32 : decode cX0_letWait 32 = .ok (.iconst 1, 1) := by decide +kernel
theorem dX0_letWait_33 : decode cX0_letWait 33 = .ok (.iadd, 1) := by decide +kernel
theorem dX0_letWait_34 : decode cX0_letWait 34 = .ok (.putfield 24, 3) := by decide +kernel
theorem dX0_letWait_37 : decode cX0_letWait 37 = .ok (.aload_n 0, 1) := by decide +kernel
theorem dX0_letWait_38 : decode cX0_letWait 38 = .ok (.iload_n 1, 1) := by decide +kernel
theorem dX0_letWait_39 : decode cX0_letWait 39 = .ok (.iconst 4, 1) := by decide +kernel
theorem dX0_letWait_40 : decode cX0_letWait 40 = .ok (.aload_n 0, 1) := by decide +kernel
theorem dX0_letWait_41 : decode cX0_letWait 41 = .ok (.iload_n 1, 1) := by decide +kernel
theorem dX0_letWait_42 : decode cX0_letWait 42 = .ok (.iconst 4, 1) := by decide +kernel
theorem dX0_letWait_43 : decode cX0_letWait 43 = .ok (.invokevirtual 73, 3) := by decide +kernel
theorem dX0_letWait_46 : decode cX0_letWait 46 = .ok (.invokestatic 98, 3) := by decide +kernel
theorem dX0_letWait_49 : decode cX0_letWait 49 = .ok (.invokevirtual 91, 3) := by decide +kernel
theorem dX0_letWait_52 : decode cX0_letWait 52 = .ok (.return_, 1) := by decide +kernel
theorem dX0_cancel_0 : decode cX0_cancel 0 = .ok (.aload_n 0, 1) := by decide +kernel
theorem dX0_cancel_1 : decode cX0_cancel 1 = .ok (.iload_n 1, 1) := by decide +kernel
theorem dX0_cancel_2 : decode cX0_cancel 2 = .ok (.invokevirtual 129, 3) := by decide +kernel
theorem dX0_cancel_5 : decode cX0_cancel 5 = .ok (.aload_n 0, 1) := by decide +kernel
theorem dX0_cancel_6 : decode cX0_cancel 6 = .ok (.iload_n 1, 1) := by decide +kernel
theorem dX0_cancel_7 : decode cX0_cancel 7 = .ok (.iconst 4, 1) := by decide +kernel
theorem dX0_cancel_8 : decode cX0_cancel 8 = .ok (.invokevirtual 73, 3) := by decide +kernel
theorem dX0_cancel_11 : decode cX0_cancel 11 = .ok (.istore_n 2, 1) := by decide +kernel
theorem dX0_cancel_12 : decode cX0_cancel 12 = .ok (.iconst 0, 1) := by decide +kernel
theorem dX0_cancel_13 : decode cX0_cancel 13 = .ok (.istore_n 3, 1) := by decide +kernel
theorem dX0_cancel_14 : decode cX0_cancel 14 = .ok (.iconst 1, 1) := by decide +kernel
theorem dX0_cancel_15 : decode cX0_cancel 15 = .ok (.istore 4, 2) := by decide +kernel
theorem dX0_cancel_17 : decode cX0_cancel 17 = .ok (.iconst 0, 1) := by decide +kernel
theorem dX0_cancel_18 : decode cX0_cancel 18 = .ok (.istore 5, 2) := by decide +kernel
theorem dX0_cancel_20 : decode cX0_cancel 20 = .ok (.iload 5, 2) := by decide +kernel
theorem dX0_cancel_22 : decode cX0_cancel 22 = .ok (.bipush 6, 2) := by decide +kernel
theorem dX0_cancel_24 : decode cX0_cancel 24 = .ok (.if_icmp .ge 86, 3) := by decide +kernel
theorem dX0_cancel_27 : decode cX0_cancel 27 = .ok (.iload 4, 2) := by decide +kernel
theorem dX0_cancel_29 : decode cX0_cancel 29 = .ok (.ifCond .eq 81, 3) := by decide +kernel
theorem dX0_cancel_32 : decode cX0_cancel 32 = .ok (.iload_n 1, 1) := by decide +kernel
theorem dX0_cancel_33 : decode cX0_cancel 33 = .ok (.iload_n 2, 1) := by decide +kernel
theorem dX0_cancel_34 : decode cX0_cancel 34 = .ok (.invokestatic 64, 3) := by decide +kernel
theorem dX0_cancel_37 : decode cX0_cancel 37 = .ok (.istore 6, 2) := by decide +kernel
theorem dX0_cancel_39 : decode cX0_cancel 39 = .ok (.iload_n 3, 1) := by decide +kernel
theorem dX0_cancel_40 : decode cX0_cancel 40 = .ok (.aload_n 0, 1) := by decide +kernel
theorem dX0_cancel_41 : decode cX0_cancel 41 = .ok (.iload 6, 2) := by decide +kernel
theorem dX0_cancel_43 : decode cX0_cancel 43 = .ok (.bipush 11, 2) := by decide +kernel
theorem dX0_cancel_45 : decode cX0_cancel 45 = .ok (.invokevirtual 40, 3) := by decide +kernel
theorem dX0_cancel_48 : decode cX0_cancel 48 = .ok (.iadd, 1) := by decide +kernel
theorem dX0_cancel_49 : decode cX0_cancel 49 = .ok (.istore_n 3, 1) := by decide +kernel
theorem dX0_cancel_50 : decode cX0_cancel 50 = .ok (.aload_n 0, 1) := by decide +kernel
theorem dX0_cancel_51 : decode cX0_cancel 51 = .ok (.iload 6, 2) := by decide +kernel
theorem dX0_cancel_53 : decode cX0_cancel 53 = .ok (.bipush 9, 2) := by decide +kernel
theorem dX0_cancel_55 : decode cX0_cancel 55 = .ok (.iconst 0, 1) := by decide +kernel
theorem dX0_cancel_56 : decode cX0_cancel 56 = .ok (.invokevirtual 95, 3) := by decide +kernel
theorem dX0_cancel_59 : decode cX0_cancel 59 = .ok (.aload_n 0, 1) := by decide +kernel
theorem dX0_cancel_60 : decode cX0_cancel 60 = .ok (.iload 6, 2) := by decide +kernel
theorem dX0_cancel_62 : decode cX0_cancel 62 = .ok (.bipush 10, 2) := by decide +kernel
theorem dX0_cancel_64 : decode cX0_cancel 64 = .ok (.iconst 2, 1) := by decide +kernel
theorem dX0_cancel_65 : decode cX0_cancel 65 = .ok (.invokevirtual 95, 3) := by decide +kernel
theorem dX0_cancel_68 : decode cX0_cancel 68 = .ok (.iload_n 2, 1) := by decide +kernel
theorem dX0_cancel_69 : decode cX0_cancel 69 = .ok (.invokestatic 98, 3) := by decide +kernel
theorem dX0_cancel_72 : decode cX0_cancel 72 = .ok (.istore_n 2, 1) := by decide +kernel
theorem dX0_cancel_73 : decode cX0_cancel 73 = .ok (.aload_n 0, 1) := by decide +kernel
theorem dX0_cancel_74 : decode cX0_cancel 74 = .ok (.iload 6, 2) := by decide +kernel
theorem dX0_cancel_76 : decode cX0_cancel 76 = .ok (.bipush 8, 2) := by decide +kernel
theorem dX0_cancel_78 : decode cX0_cancel 78 = .ok (.invokevirtual 40, 3) := by decide +kernel
theorem dX0_cancel_81 : decode cX0_cancel 81 = .ok (.iconst 1, 1) := by decide +kernel
theorem dX0_cancel_82 : decode cX0_cancel 82 = .ok (.if_icmp .ne 19, 3) := by decide +kernel
theorem dX0_cancel_85 : decode cX0_cancel 85 = .ok (.aload_n 0, 1) := by decide +kernel
theorem dX0_cancel_86 : decode cX0_cancel 86 = .ok (.iload_n 1, 1) := by decide +kernel
theorem dX0_cancel_87 : decode cX0_cancel 87 = .ok (.iload_n 2, 1) := by decide +kernel
theorem dX0_cancel_88 : decode cX0_cancel 88 = .ok (.invokestatic 64, 3) := by decide +kernel
theorem dX0_cancel_91 : decode cX0_cancel 91 = .ok (.invokevirtual 67, 3) := by decide +kernel
theorem dX0_cancel_94 : decode cX0_cancel 94 = .ok (.ifCond .eq 7, 3) := by decide +kernel
theorem dX0_cancel_97 : decode cX0_cancel 97 = .ok (.iconst 1, 1) := by decide +kernel
theorem dX0_cancel_98 : decode cX0_cancel 98 = .ok (.goto 4, 3) := by decide +kernel
theorem dX0_cancel_101 : decode cX0_cancel 101 = .ok (.iconst 0, 1) := by decide +kernel
theorem dX0_cancel_102 : decode cX0_cancel 102 = .ok (.istore 4, 2) := by decide +kernel
theorem dX0_cancel_104 : decode cX0_cancel 104 = .ok (.iinc 5 1, 3) := by decide +kernel
theorem dX0_cancel_107 : decode cX0_cancel 107 = .ok (.goto (-87), 3) := by decide +kernel
theorem dX0_cancel_110 : decode cX0_cancel 110 = .ok (.aload_n 0, 1) := by decide +kernel
theorem dX0_cancel_111 : decode cX0_cancel 111 = .ok (.iload_n 1, 1) := by decide +kernel
theorem dX0_cancel_112 : decode cX0_cancel 112 = .ok (.iconst 4, 1) := by decide +kernel
theorem dX0_cancel_113 : decode cX0_cancel 113 = .ok (.iload_n 2, 1) := by decide +kernel
theorem dX0_cancel_114 : decode cX0_cancel 114 = .ok (.invokevirtual 91, 3) := by decide +kernel
theorem dX0_cancel_117 : decode cX0_cancel 117 = .ok (.iload_n 3, 1) := by decide +kernel
theorem dX0_cancel_118 : decode cX0_cancel 118 = .ok (.ireturn, 1) := by decide +kernel
theorem dX0_writeBackAllOf_0 : decode cX0_writeBackAllOf 0 = .ok (.iconst 0, 1) := by decide +kernel
theorem dX0_writeBackAllOf_1 : decode cX0_writeBackAllOf 1 = .ok (.istore_n 2, 1) := by decide +kernel
theorem dX0_writeBackAllOf_2 : decode cX0_writeBackAllOf 2 = .ok (.aload_n 0, 1) := by decide +kernel
theorem dX0_writeBackAllOf_3 : decode cX0_writeBackAllOf 3 = .ok (.getfield 24, 3) := by decide +kernel
theorem dX0_writeBackAllOf_6 : decode cX0_writeBackAllOf 6 = .ok (.istore_n 3, 1) := by decide +kernel
theorem dX0_writeBackAllOf_7 : decode cX0_writeBackAllOf 7 = .ok (.iload_n 3, 1) := by decide +kernel
theorem dX0_writeBackAllOf_8 : decode cX0_writeBackAllOf 8 = .ok (.ifCond .le 33, 3) := by decide +kernel
theorem dX0_writeBackAllOf_11 : decode cX0_writeBackAllOf 11 = .ok (.aload_n 0, 1) := by decide +kernel
theorem dX0_writeBackAllOf_12 : decode cX0_writeBackAllOf 12 = .ok (.getfield 21, 3) := by decide +kernel
theorem dX0_writeBackAllOf_15 : decode cX0_writeBackAllOf 15 = .ok (.iload_n 2, 1) := by decide +kernel
theorem dX0_writeBackAllOf_16 : decode cX0_writeBackAllOf 16 = .ok (.iaload, 1) := by decide +kernel
theorem dX0_writeBackAllOf_17 : decode cX0_writeBackAllOf 17 = .ok (.bipush 6, 2) := by decide +kernel
theorem dX0_writeBackAllOf_19 : decode cX0_writeBackAllOf 19 = .ok (.idiv, 1) := by decide +kernel
theorem dX0_writeBackAllOf_20 : decode cX0_writeBackAllOf 20 = .ok (.iload_n 1, 1) := by decide +kernel
theorem dX0_writeBackAllOf_21 : decode cX0_writeBackAllOf 21 = .ok (.if_icmp .ne 11, 3) := by decide +kernel
theorem dX0_writeBackAllOf_24 : decode cX0_writeBackAllOf 24 = .ok (.aload_n 0, 1) := by decide +kernel
theorem dX0_writeBackAllOf_25 : decode cX0_writeBackAllOf 25 = .ok (.iload_n 2, 1) := by decide +kernel
theorem dX0_writeBackAllOf_26 : decode cX0_writeBackAllOf 26 = .ok (.invokevirtual 101, 3) := by decide +kernel
theorem dX0_writeBackAllOf_29 : decode cX0_writeBackAllOf 29 = .ok (.goto 6, 3) := by decide +kernel
theorem dX0_writeBackAllOf_32 : decode cX0_writeBackAllOf 32 = .ok (.iinc 2 1, 3) := by decide +kernel
theorem dX0_writeBackAllOf_35 : decode cX0_writeBackAllOf 35 = .ok (.iinc 3 (-1), 3) := by decide +kernel
theorem dX0_writeBackAllOf_38 : decode cX0_writeBackAllOf 38 = .ok (.goto (-31), 3) := by decide +kernel
theorem dX0_writeBackAllOf_41 : decode cX0_writeBackAllOf 41 = .ok (.return_, 1) := by decide +kernel
theorem dX1_init_0 : decode cX1_init 0 = .ok (.aload_n 0, 1) := by decide +kernel
theorem dX1_init_1 : decode cX1_init 1 = .ok (.invokespecial 1, 3) := by decide +kernel
theorem dX1_init_4 : decode cX1_init 4 = .ok (.aload_n 0, 1) := by decide +kernel
theorem dX1_init_5 : decode cX1_init 5 = .ok (.bipush 6, 2) := by decide +kernel
theorem dX1_init_7 : decode cX1_init 7 = .ok (.anewarray 9, 3) := by decide +kernel
theorem dX1_init_10 : decode cX1_init 10 = .ok (.putfield 11, 3) := by decide +kernel
theorem dX1_init_13 : decode cX1_init 13 = .ok (.iconst 0, 1) := by decide +kernel
theorem dX1_init_14 : decode cX1_init 14 = .ok (.istore_n 1, 1) := by decide +kernel
theorem dX1_init_15 : decode cX1_init 15 = .ok (.iload_n 1, 1) := by decide +kernel
theorem dX1_init_16 : decode cX1_init 16 = .ok (.bipush 6, 2) := by decide +kernel
theorem dX1_init_18 : decode cX1_init 18 = .ok (.if_icmp .ge 22, 3) := by decide +kernel
theorem dX1_init_21 : decode cX1_init 21 = .ok (.aload_n 0, 1) := by decide +kernel
theorem dX1_init_22 : decode cX1_init 22 = .ok (.getfield 11, 3) := by decide +kernel
theorem dX1_init_25 : decode cX1_init 25 = .ok (.iload_n 1, 1) := by decide +kernel
theorem dX1_init_26 : decode cX1_init 26 = .ok (.new 9, 3) := by decide +kernel
theorem dX1_init_29 : decode cX1_init 29 = .ok (.dup, 1) := by decide +kernel
theorem dX1_init_30 : decode cX1_init 30 = .ok (.invokespecial 15, 3) := by decide +kernel
theorem dX1_init_33 : decode cX1_init 33 = .ok (.aastore, 1) := by decide +kernel
theorem dX1_init_34 : decode cX1_init 34 = .ok (.iinc 1 1, 3) := by decide +kernel
theorem dX1_init_37 : decode cX1_init 37 = .ok (.goto (-22), 3) := by decide +kernel
theorem dX1_init_40 : decode cX1_init 40 = .ok (.aload_n 0, 1) := by decide +kernel
theorem dX1_init_41 : decode cX1_init 41 = .ok (.iconst 5, 1) := by decide +kernel
theorem dX1_init_42 : decode cX1_init 42 = .ok (.putfield 16, 3) := by decide +kernel
theorem dX1_init_45 : decode cX1_init 45 = .ok (.aload_n 0, 1) := by decide +kernel
theorem dX1_init_46 : decode cX1_init 46 = .ok (.iconst 0, 1) := by decide +kernel
theorem dX1_init_47 : decode cX1_init 47 = .ok (.putfield 20, 3) := by decide +kernel
theorem dX1_init_50 : decode cX1_init 50 = .ok (.return_, 1) := by decide +kernel
theorem dX1_remember_0 : decode cX1_remember 0 = .ok (.aload_n 0, 1) := by decide +kernel
theorem dX1_remember_1 : decode cX1_remember 1 = .ok (.aload_n 0, 1) := by decide +kernel
theorem dX1_remember_2 : decode cX1_remember 2 = .ok (.getfield 16, 3) := by decide +kernel
theorem dX1_remember_5 : decode cX1_remember 5 = .ok (.iconst 5, 1) := by decide +kernel
theorem dX1_remember_6 : decode cX1_remember 6 = .ok (.if_icmp .lt 7, 3) := by decide +kernel
theorem dX1_remember_9 : decode cX1_remember 9 = .ok (.iconst 0, 1) := by decide +kernel
theorem dX1_remember_10 : decode cX1_remember 10 = .ok (.goto 9, 3) := by decide +kernel
theorem dX1_remember_13 : decode cX1_remember 13 = .ok (.aload_n 0, 1) := by decide +kernel
theorem dX1_remember_14 : decode cX1_remember 14 = .ok (.getfield 16, 3) := by decide +kernel
theorem dX1_remember_17 : decode cX1_remember 17 = .ok (.iconst 1, 1) := by decide +kernel
theorem dX1_remember_18 : decode cX1_remember 18 = .ok (.iadd, 1) := by decide +kernel
theorem dX1_remember_19 : decode cX1_remember 19 = .ok (.putfield 16, 3) := by decide +kernel
theorem dX1_remember_22 : decode cX1_remember 22 = .ok (.aload_n 0, 1) := by decide +kernel
theorem dX1_remember_23 : decode cX1_remember 23 = .ok (.getfield 11, 3) := by decide +kernel
theorem dX1_remember_26 : decode cX1_remember 26 = .ok (.aload_n 0, 1) := by decide +kernel
theorem dX1_remember_27 : decode cX1_remember 27 = .ok (.getfield 16, 3) := by decide +kernel
theorem dX1_remember_30 : decode cX1_remember 30 = .ok (.aaload, 1) := by decide +kernel
theorem dX1_remember_31 : decode cX1_remember 31 = .ok (.aload_n 1, 1) := by decide +kernel
theorem dX1_remember_32 : decode cX1_remember 32 = .ok (.invokevirtual 23, 3) := by decide +kernel
theorem dX1_remember_35 : decode cX1_remember 35 = .ok (.aload_n 0, 1) := by decide +kernel
theorem dX1_remember_36 : decode cX1_remember 36 = .ok (.aload_n 0, 1) := by decide +kernel
theorem dX1_remember_37 : decode cX1_remember 37 = .ok (.getfield 20, 3) := by decide +kernel
theorem dX1_remember_40 : decode cX1_remember 40 = .ok (.iconst 1, 1) := by decide +kernel
theorem dX1_remember_41 : decode cX1_remember 41 = .ok (.iadd, 1) := by decide +kernel
theorem dX1_remember_42 : decode cX1_remember 42 = .ok (.bipush 6, 2) := by decide +kernel
theorem dX1_remember_44 : decode cX1_remember 44 = .ok (.invokestatic 27, 3) := by decide +kernel
theorem dX1_remember_47 : decode cX1_remember 47 = .ok (.putfield 20, 3) := by decide +kernel
theorem dX1_remember_50 : decode cX1_remember 50 = .ok (.return_, 1) := by decide +kernel
theorem dX1_restore_0 : decode cX1_restore 0 = .ok (.aload_n 0, 1) := by decide +kernel
theorem dX1_restore_1 : decode cX1_restore 1 = .ok (.getfield 20, 3) := by decide +kernel
theorem dX1_restore_4 : decode cX1_restore 4 = .ok (.ifCond .ne 5, 3) := by decide +kernel
theorem dX1_restore_7 : decode cX1_restore 7 = .ok (.iconst 0, 1) := by decide +kernel
theorem dX1_restore_8 : decode cX1_restore 8 = .ok (.ireturn, 1) := by decide +kernel
theorem dX1_restore_9 : decode cX1_restore 9 = .ok (.aload_n 1, 1) := by decide +kernel
theorem dX1_restore_10 : decode cX1_restore 10 = .ok (.aload_n 0, 1) := by decide +kernel
theorem dX1_restore_11 : decode cX1_restore 11 = .ok (.getfield 11, 3) := by decide +kernel
theorem dX1_restore_14 : decode cX1_restore 14 = .ok (.aload_n 0, 1) := by decide +kernel
theorem dX1_restore_15 : decode cX1_restore 15 = .ok (.getfield 16, 3) := by decide +kernel
theorem dX1_restore_18 : decode cX1_restore 18 = .ok (.aaload, 1) := by decide +kernel
theorem dX1_restore_19 : decode cX1_restore 19 = .ok (.invokevirtual 23, 3) := by decide +kernel
theorem dX1_restore_22 : decode cX1_restore 22 = .ok (.aload_n 0, 1) := by decide +kernel
theorem dX1_restore_23 : decode cX1_restore 23 = .ok (.aload_n 0, 1) := by decide +kernel
theorem dX1_restore_24 : decode cX1_restore 24 = .ok (.getfield 16, 3) := by decide +kernel
theorem dX1_restore_27 : decode cX1_restore 27 = .ok (.ifCond .gt 7, 3) := by decide +kernel
theorem dX1_restore_30 : decode cX1_restore 30 = .ok (.iconst 5, 1) := by decide +kernel
theorem dX1_restore_31 : decode cX1_restore 31 = .ok (.goto 9, 3) := by decide +kernel
theorem dX1_restore_34 : decode cX1_restore 34 = .ok (.aload_n 0, 1) := by decide +kernel
theorem dX1_restore_35 : decode cX1_restore 35 = .ok (.getfield 16, 3) := by decide +kernel
theorem dX1_restore_38 : decode cX1_restore 38 = .ok (.iconst 1, 1) := by decide +kernel
theorem dX1_restore_39 : decode cX1_restore 39 = .ok (.isub, 1) := by decide +kernel
theorem dX1_restore_40 : decode cX1_restore 40 = .ok (.putfield 16, 3) := by decide +kernel
theorem dX1_restore_43 : decode cX1_restore 43 = .ok (.aload_n 0, 1) := by decide +kernel
theorem dX1_restore_44 : decode cX1_restore 44 = .ok (.dup, 1) := by decide +kernel
theorem dX1_restore_45 : decode cX1_restore 45 = .ok (.getfield 20, 3) := by decide +kernel
theorem dX1_restore_48 : decode cX1_restore 48 = .ok (.iconst 1, 1) := by decide +kernel
theorem dX1_restore_49 : decode cX1_restore 49 = .ok (.isub, 1) := by decide +kernel
theorem dX1_restore_50 : decode cX1_restore 50 = .ok (.putfield 20, 3) := by decide +kernel
theorem dX1_restore_53 : decode cX1_restore 53 = .ok (.iconst 1, 1) := by decide +kernel
theorem dX1_restore_54 : decode cX1_restore 54 = .ok (.ireturn, 1) := by decide +kernel
theorem dX1_lose_0 : decode cX1_lose 0 = .ok (.aload_n 0, 1) := by decide +kernel
theorem dX1_lose_1 : decode cX1_lose 1 = .ok (.iconst 0, 1) := by decide +kernel
theorem dX1_lose_2 : decode cX1_lose 2 = .ok (.putfield 20, 3) := by decide +kernel
theorem dX1_lose_5 : decode cX1_lose 5 = .ok (.return_, 1) := by decide +kernel
theorem dX2_init_0 : decode cX2_init 0 = .ok (.aload_n 0, 1) := by decide +kernel
theorem dX2_init_1 : decode cX2_init 1 = .ok (.invokespecial 1, 3) := by decide +kernel
theorem dX2_init_4 : decode cX2_init 4 = .ok (.aload_n 0, 1) := by decide +kernel
theorem dX2_init_5 : decode cX2_init 5 = .ok (.bipush 6, 2) := by decide +kernel
theorem dX2_init_7 : decode cX2_init 7 = .ok (.newarray .int, 2) := by decide +kernel
theorem dX2_init_9 : decode cX2_init 9 = .ok (.putfield 9, 3) := by decide +kernel
theorem dX2_init_12 : decode cX2_init 12 = .ok (.aload_n 0, 1) := by decide +kernel
theorem dX2_init_13 : decode cX2_init 13 = .ok (.bipush 6, 2) := by decide +kernel
theorem dX2_init_15 : decode cX2_init 15 = .ok (.newarray .int, 2) := by decide +kernel
theorem dX2_init_17 : decode cX2_init 17 = .ok (.putfield 13, 3) := by decide +kernel
theorem dX2_init_20 : decode cX2_init 20 = .ok (.aload_n 0, 1) := by decide +kernel
theorem dX2_init_21 : decode cX2_init 21 = .ok (.iconst 0, 1) := by decide +kernel
theorem dX2_init_22 : decode cX2_init 22 = .ok (.putfield 16, 3) := by decide +kernel
theorem dX2_init_25 : decode cX2_init 25 = .ok (.return_, 1) := by decide +kernel
theorem dX2_note_0 : decode cX2_note 0 = .ok (.aload_n 0, 1) := by decide +kernel
theorem dX2_note_1 : decode cX2_note 1 = .ok (.getfield 16, 3) := by decide +kernel
theorem dX2_note_4 : decode cX2_note 4 = .ok (.bipush 6, 2) := by decide +kernel
theorem dX2_note_6 : decode cX2_note 6 = .ok (.if_icmp .lt 5, 3) := by decide +kernel
theorem dX2_note_9 : decode cX2_note 9 = .ok (.iconst 0, 1) := by decide +kernel
theorem dX2_note_10 : decode cX2_note 10 = .ok (.ireturn, 1) := by decide +kernel
theorem dX2_note_11 : decode cX2_note 11 = .ok (.aload_n 0, 1) := by decide +kernel
theorem dX2_note_12 : decode cX2_note 12 = .ok (.getfield 9, 3) := by decide +kernel
theorem dX2_note_15 : decode cX2_note 15 = .ok (.aload_n 0, 1) := by decide +kernel
theorem dX2_note_16 : decode cX2_note 16 = .ok (.getfield 16, 3) := by decide +kernel
theorem dX2_note_19 : decode cX2_note 19 = .ok (.iload_n 1, 1) := by decide +kernel
theorem dX2_note_20 : decode cX2_note 20 = .ok (.iastore, 1) := by decide +kernel
theorem dX2_note_21 : decode cX2_note 21 = .ok (.aload_n 0, 1) := by decide +kernel
theorem dX2_note_22 : decode cX2_note 22 = .ok (.getfield 13, 3) := by decide +kernel
theorem dX2_note_25 : decode cX2_note 25 = .ok (.aload_n 0, 1) := by decide +kernel
theorem dX2_note_26 : decode cX2_note 26 = .ok (.getfield 16, 3) := by decide +kernel
theorem dX2_note_29 : decode cX2_note 29 = .ok (.iload_n 2, 1) := by decide +kernel
theorem dX2_note_30 : decode cX2_note 30 = .ok (.iastore, 1) := by decide +kernel
theorem dX2_note_31 : decode cX2_note 31 = .ok (.aload_n 0, 1) := by decide +kernel
theorem dX2_note_32 : decode cX2_note 32 = .ok (.dup, 1) := by decide +kernel
theorem dX2_note_33 : decode cX2_note 33 = .ok (.getfield 16, 3) := by decide +kernel
theorem dX2_note_36 : decode cX2_note 36 = .ok (.iconst 1, 1) := by decide +kernel
theorem dX2_note_37 : decode cX2_note 37 = .ok (.iadd, 1) := by decide +kernel
theorem dX2_note_38 : decode cX2_note 38 = .ok (.putfield 16, 3) := by decide +kernel
theorem dX2_note_41 : decode cX2_note 41 = .ok (.iconst 1, 1) := by decide +kernel
theorem dX2_note_42 : decode cX2_note 42 = .ok (.ireturn, 1) := by decide +kernel
theorem dX2_drop_0 : decode cX2_drop 0 = .ok (.aload_n 0, 1) := by decide +kernel
theorem dX2_drop_1 : decode cX2_drop 1 = .ok (.iconst 0, 1) := by decide +kernel
theorem dX2_drop_2 : decode cX2_drop 2 = .ok (.putfield 16, 3) := by decide +kernel
theorem dX2_drop_5 : decode cX2_drop 5 = .ok (.return_, 1) := by decide +kernel
theorem dX2_comeTrue_0 : decode cX2_comeTrue 0 = .ok (.aload_n 0, 1) := by decide +kernel
theorem dX2_comeTrue_1 : decode cX2_comeTrue 1 = .ok (.invokevirtual 20, 3) := by decide +kernel
theorem dX2_comeTrue_4 : decode cX2_comeTrue 4 = .ok (.istore_n 2, 1) := by decide +kernel
theorem dX2_comeTrue_5 : decode cX2_comeTrue 5 = .ok (.iconst 1, 1) := by decide +kernel
theorem dX2_comeTrue_6 : decode cX2_comeTrue 6 = .ok (.istore_n 3, 1) := by decide +kernel
theorem dX2_comeTrue_7 : decode cX2_comeTrue 7 = .ok (.iload_n 3, 1) := by decide +kernel
theorem dX2_comeTrue_8 : decode cX2_comeTrue 8 = .ok (.iload_n 2, 1) := by decide +kernel
theorem dX2_comeTrue_9 : decode cX2_comeTrue 9 = .ok (.if_icmp .gt 24, 3) := by decide +kernel
theorem dX2_comeTrue_12 : decode cX2_comeTrue 12 = .ok (.aload_n 0, 1) := by decide +kernel
theorem dX2_comeTrue_13 : decode cX2_comeTrue 13 = .ok (.iload_n 3, 1) := by decide +kernel
theorem dX2_comeTrue_14 : decode cX2_comeTrue 14 = .ok (.aload_n 1, 1) := by decide +kernel
theorem dX2_comeTrue_15 : decode cX2_comeTrue 15 = .ok (.iconst 0, 1) := by decide +kernel
theorem dX2_comeTrue_16 : decode cX2_comeTrue 16 = .ok (.invokevirtual 24, 3) := by decide +kernel
theorem dX2_comeTrue_19 : decode cX2_comeTrue 19 = .ok (.invokevirtual 30, 3) := by decide +kernel
theorem dX2_comeTrue_22 : decode cX2_comeTrue 22 = .ok (.ifCond .ne 5, 3) := by decide +kernel
theorem dX2_comeTrue_25 : decode cX2_comeTrue 25 = .ok (.iconst 0, 1) := by decide +kernel
theorem dX2_comeTrue_26 : decode cX2_comeTrue 26 = .ok (.ireturn, 1) := by decide +kernel
theorem dX2_comeTrue_27 : decode cX2_comeTrue 27 = .ok (.iinc 3 1, 3) := by decide +kernel
theorem dX2_comeTrue_30 : decode cX2_comeTrue 30 = .ok (.goto (-23), 3) := by decide +kernel
theorem dX2_comeTrue_33 : decode cX2_comeTrue 33 = .ok (.iconst 1, 1) := by decide +kernel
theorem dX2_comeTrue_34 : decode cX2_comeTrue 34 = .ok (.ireturn, 1) := by decide +kernel
theorem dX2_lastTick_0 : decode cX2_lastTick 0 = .ok (.iconst 0, 1) := by decide +kernel
theorem dX2_lastTick_1 : decode cX2_lastTick 1 = .ok (.istore_n 1, 1) := by decide +kernel
theorem dX2_lastTick_2 : decode cX2_lastTick 2 = .ok (.iconst 0, 1) := by decide +kernel
theorem dX2_lastTick_3 : decode cX2_lastTick 3 = .ok (.istore_n 2, 1) := by decide +kernel
theorem dX2_lastTick_4 : decode cX2_lastTick 4 = .ok (.iload_n 2, 1) := by decide +kernel
theorem dX2_lastTick_5 : decode cX2_lastTick 5 = .ok (.aload_n 0, 1) := by decide +kernel
theorem dX2_lastTick_6 : decode cX2_lastTick 6 = .ok (.getfield 16, 3) := by decide +kernel
theorem dX2_lastTick_9 : decode cX2_lastTick 9 = .ok (.if_icmp .ge 20, 3) := by decide +kernel
theorem dX2_lastTick_12 : decode cX2_lastTick 12 = .ok (.iload_n 1, 1) := by decide +kernel
theorem dX2_lastTick_13 : decode cX2_lastTick 13 = .ok (.aload_n 0, 1) := by decide +kernel
theorem dX2_lastTick_14 : decode cX2_lastTick 14 = .ok (.getfield 9, 3) := by decide +kernel
theorem dX2_lastTick_17 : decode cX2_lastTick 17 = .ok (.iload_n 2, 1) := by decide +kernel
theorem dX2_lastTick_18 : decode cX2_lastTick 18 = .ok (.iaload, 1) := by decide +kernel
theorem dX2_lastTick_19 : decode cX2_lastTick 19 = .ok (.invokestatic 34, 3) := by decide +kernel
theorem dX2_lastTick_22 : decode cX2_lastTick 22 = .ok (.istore_n 1, 1) := by decide +kernel
theorem dX2_lastTick_23 : decode cX2_lastTick 23 = .ok (.iinc 2 1, 3) := by decide +kernel
theorem dX2_lastTick_26 : decode cX2_lastTick 26 = .ok (.goto (-22), 3) := by decide +kernel
theorem dX2_lastTick_29 : decode cX2_lastTick 29 = .ok (.iload_n 1, 1) := by decide +kernel
theorem dX2_lastTick_30 : decode cX2_lastTick 30 = .ok (.ireturn, 1) := by decide +kernel
theorem dX2_allowsInTick_0 : decode cX2_allowsInTick 0 = .ok (.iconst 0, 1) := by decide +kernel
theorem dX2_allowsInTick_1 : decode cX2_allowsInTick 1 = .ok (.istore_n 3, 1) := by decide +kernel
theorem dX2_allowsInTick_2 : decode cX2_allowsInTick 2 = .ok (.iload_n 3, 1) := by decide +kernel
theorem dX2_allowsInTick_3 : decode cX2_allowsInTick 3 = .ok (.aload_n 0, 1) := by decide +kernel
theorem dX2_allowsInTick_4 : decode cX2_allowsInTick 4 = .ok (.getfield 16, 3) := by decide +kernel
theorem dX2_allowsInTick_7 : decode cX2_allowsInTick 7 = .ok (.if_icmp .ge 31, 3) := by decide +kernel
theorem dX2_allowsInTick_10 : decode cX2_allowsInTick 10 = .ok (.aload_n 0, 1) := by decide +kernel
theorem dX2_allowsInTick_11 : decode cX2_allowsInTick 11 = .ok (.getfield 9, 3) := by decide +kernel
theorem dX2_allowsInTick_14 : decode cX2_allowsInTick 14 = .ok (.iload_n 3, 1) := by decide +kernel
theorem dX2_allowsInTick_15 : decode cX2_allowsInTick 15 = .ok (.iaload, 1) := by decide +kernel
theorem dX2_allowsInTick_16 : decode cX2_allowsInTick 16 = .ok (.iload_n 1, 1) := by decide +kernel
theorem dX2_allowsInTick_17 : decode cX2_allowsInTick 17 = .ok (.if_icmp .ne 15, 3) := by decide +kernel
theorem dX2_allowsInTick_20 : decode cX2_allowsInTick 20 = .ok (.aload_n 0, 1) := by decide +kernel
theorem dX2_allowsInTick_21 : decode cX2_allowsInTick 21 = .ok (.getfield 13, 3) := by decide +kernel
theorem dX2_allowsInTick_24 : decode cX2_allowsInTick 24 = .ok (.iload_n 3, 1) := by decide +kernel
theorem dX2_allowsInTick_25 : decode cX2_allowsInTick 25 = .ok (.iaload, 1) := by decide +kernel
theorem dX2_allowsInTick_26 : decode cX2_allowsInTick 26 = .ok (.iload_n 2, 1) := by decide +kernel
theorem dX2_allowsInTick_27 : decode cX2_allowsInTick 27 = .ok (.if_icmp .eq 5, 3) := by decide +kernel
theorem dX2_allowsInTick_30 : decode cX2_allowsInTick 30 = .ok (.iconst 0, 1) := by decide +kernel
theorem dX2_allowsInTick_31 : decode cX2_allowsInTick 31 = .ok (.ireturn, 1) := by decide +kernel
theorem dX2_allowsInTick_32 : decode cX2_allowsInTick 32 = .ok (.iinc 3 1, 3) := by decide +kernel
theorem dX2_allowsInTick_35 : decode cX2_allowsInTick 35 = .ok (.goto (-33), 3) := by decide +kernel
theorem dX2_allowsInTick_38 : decode cX2_allowsInTick 38 = .ok (.iconst 1, 1) := by decide +kernel
theorem dX2_allowsInTick_39 : decode cX2_allowsInTick 39 = .ok (.ireturn, 1) := by decide +kernel
theorem dJ13_bitCount_95d88_0 : decode cJ13_bitCount_95d88 0 = .ok (.lload_n 0, 1) := by decide +kernel
theorem dJ13_bitCount_95d88_1 : decode cJ13_bitCount_95d88 1 = .ok (.lload_n 0, 1) := by decide +kernel
theorem dJ13_bitCount_95d88_2 : decode cJ13_bitCount_95d88 2 = .ok (.iconst 1, 1) := by decide +kernel
theorem dJ13_bitCount_95d88_3 : decode cJ13_bitCount_95d88 3 = .ok (.lushr, 1) := by decide +kernel
theorem dJ13_bitCount_95d88_4 : decode cJ13_bitCount_95d88 4 = .ok (.ldc2_w 314, 3) := by decide +kernel
theorem dJ13_bitCount_95d88_7 : decode cJ13_bitCount_95d88 7 = .ok (.land, 1) := by decide +kernel
theorem dJ13_bitCount_95d88_8 : decode cJ13_bitCount_95d88 8 = .ok (.lsub, 1) := by decide +kernel
theorem dJ13_bitCount_95d88_9 : decode cJ13_bitCount_95d88 9 = .ok (.lstore_n 0, 1) := by decide +kernel
theorem dJ13_bitCount_95d88_10 : decode cJ13_bitCount_95d88 10 = .ok (.lload_n 0, 1) := by decide +kernel
theorem dJ13_bitCount_95d88_11 : decode cJ13_bitCount_95d88 11 = .ok (.ldc2_w 316, 3) := by decide +kernel
theorem dJ13_bitCount_95d88_14 : decode cJ13_bitCount_95d88 14 = .ok (.land, 1) := by decide +kernel
theorem dJ13_bitCount_95d88_15 : decode cJ13_bitCount_95d88 15 = .ok (.lload_n 0, 1) := by decide +kernel
theorem dJ13_bitCount_95d88_16 : decode cJ13_bitCount_95d88 16 = .ok (.iconst 2, 1) := by decide +kernel
theorem dJ13_bitCount_95d88_17 : decode cJ13_bitCount_95d88 17 = .ok (.lushr, 1) := by decide +kernel
theorem dJ13_bitCount_95d88_18 : decode cJ13_bitCount_95d88 18 = .ok (.ldc2_w 316, 3) := by decide +kernel
theorem dJ13_bitCount_95d88_21 : decode cJ13_bitCount_95d88 21 = .ok (.land, 1) := by decide +kernel
theorem dJ13_bitCount_95d88_22 : decode cJ13_bitCount_95d88 22 = .ok (.ladd, 1) := by decide +kernel
theorem dJ13_bitCount_95d88_23 : decode cJ13_bitCount_95d88 23 = .ok (.lstore_n 0, 1) := by decide +kernel
theorem dJ13_bitCount_95d88_24 : decode cJ13_bitCount_95d88 24 = .ok (.lload_n 0, 1) := by decide +kernel
theorem dJ13_bitCount_95d88_25 : decode cJ13_bitCount_95d88 25 = .ok (.lload_n 0, 1) := by decide +kernel
theorem dJ13_bitCount_95d88_26 : decode cJ13_bitCount_95d88 26 = .ok (.iconst 4, 1) := by decide +kernel
theorem dJ13_bitCount_95d88_27 : decode cJ13_bitCount_95d88 27 = .ok (.lushr, 1) := by decide +kernel
theorem dJ13_bitCount_95d88_28 : decode cJ13_bitCount_95d88 28 = .ok (.ladd, 1) := by decide +kernel
theorem dJ13_bitCount_95d88_29 : decode cJ13_bitCount_95d88 29 = .ok (.ldc2_w 318, 3) := by decide +kernel
theorem dJ13_bitCount_95d88_32 : decode cJ13_bitCount_95d88 32 = .ok (.land, 1) := by decide +kernel
theorem dJ13_bitCount_95d88_33 : decode cJ13_bitCount_95d88 33 = .ok (.lstore_n 0, 1) := by decide +kernel
theorem dJ13_bitCount_95d88_34 : decode cJ13_bitCount_95d88 34 = .ok (.lload_n 0, 1) := by decide +kernel
theorem dJ13_bitCount_95d88_35 : decode cJ13_bitCount_95d88 35 = .ok (.lload_n 0, 1) := by decide +kernel
theorem dJ13_bitCount_95d88_36 : decode cJ13_bitCount_95d88 36 = .ok (.bipush 8, 2) := by decide +kernel
theorem dJ13_bitCount_95d88_38 : decode cJ13_bitCount_95d88 38 = .ok (.lushr, 1) := by decide +kernel
theorem dJ13_bitCount_95d88_39 : decode cJ13_bitCount_95d88 39 = .ok (.ladd, 1) := by decide +kernel
theorem dJ13_bitCount_95d88_40 : decode cJ13_bitCount_95d88 40 = .ok (.lstore_n 0, 1) := by decide +kernel
theorem dJ13_bitCount_95d88_41 : decode cJ13_bitCount_95d88 41 = .ok (.lload_n 0, 1) := by decide +kernel
theorem dJ13_bitCount_95d88_42 : decode cJ13_bitCount_95d88 42 = .ok (.lload_n 0, 1) := by decide +kernel
theorem dJ13_bitCount_95d88_43 : decode cJ13_bitCount_95d88 43 = .ok (.bipush 16, 2) := by decide +kernel
theorem dJ13_bitCount_95d88_45 : decode cJ13_bitCount_95d88 45 = .ok (.lushr, 1) := by decide +kernel
theorem dJ13_bitCount_95d88_46 : decode cJ13_bitCount_95d88 46 = .ok (.ladd, 1) := by decide +kernel
theorem dJ13_bitCount_95d88_47 : decode cJ13_bitCount_95d88 47 = .ok (.lstore_n 0, 1) := by decide +kernel
theorem dJ13_bitCount_95d88_48 : decode cJ13_bitCount_95d88 48 = .ok (.lload_n 0, 1) := by decide +kernel
theorem dJ13_bitCount_95d88_49 : decode cJ13_bitCount_95d88 49 = .ok (.lload_n 0, 1) := by decide +kernel
theorem dJ13_bitCount_95d88_50 : decode cJ13_bitCount_95d88 50 = .ok (.bipush 32, 2) := by decide +kernel
theorem dJ13_bitCount_95d88_52 : decode cJ13_bitCount_95d88 52 = .ok (.lushr, 1) := by decide +kernel
theorem dJ13_bitCount_95d88_53 : decode cJ13_bitCount_95d88 53 = .ok (.ladd, 1) := by decide +kernel
theorem dJ13_bitCount_95d88_54 : decode cJ13_bitCount_95d88 54 = .ok (.lstore_n 0, 1) := by decide +kernel
theorem dJ13_bitCount_95d88_55 : decode cJ13_bitCount_95d88 55 = .ok (.lload_n 0, 1) := by decide +kernel
theorem dJ13_bitCount_95d88_56 : decode cJ13_bitCount_95d88 56 = .ok (.l2i, 1) := by decide +kernel
theorem dJ13_bitCount_95d88_57 : decode cJ13_bitCount_95d88 57 = .ok (.bipush 127, 2) := by decide +kernel
theorem dJ13_bitCount_95d88_59 : decode cJ13_bitCount_95d88 59 = .ok (.iand, 1) := by decide +kernel
theorem dJ13_bitCount_95d88_60 : decode cJ13_bitCount_95d88 60 = .ok (.ireturn, 1) := by decide +kernel
theorem dJ9_floorMod_7cf53_0 : decode cJ9_floorMod_7cf53 0 = .ok (.iload_n 0, 1) := by decide +kernel
theorem dJ9_floorMod_7cf53_1 : decode cJ9_floorMod_7cf53 1 = .ok (.iload_n 1, 1) := by decide +kernel
theorem dJ9_floorMod_7cf53_2 : decode cJ9_floorMod_7cf53 2 = .ok (.irem, 1) := by decide +kernel
theorem dJ9_floorMod_7cf53_3 : decode cJ9_floorMod_7cf53 3 = .ok (.istore_n 2, 1) := by decide +kernel
theorem dJ9_floorMod_7cf53_4 : decode cJ9_floorMod_7cf53 4 = .ok (.iload_n 0, 1) := by decide +kernel
theorem dJ9_floorMod_7cf53_5 : decode cJ9_floorMod_7cf53 5 = .ok (.iload_n 1, 1) := by decide +kernel
theorem dJ9_floorMod_7cf53_6 : decode cJ9_floorMod_7cf53 6 = .ok (.ixor, 1) := by decide +kernel
theorem dJ9_floorMod_7cf53_7 : decode cJ9_floorMod_7cf53 7 = .ok (.ifCond .ge 11, 3) := by decide +kernel
theorem dJ9_floorMod_7cf53_10 : decode cJ9_floorMod_7cf53 10 = .ok (.iload_n 2, 1) := by decide +kernel
theorem dJ9_floorMod_7cf53_11 : decode cJ9_floorMod_7cf53 11 = .ok (.ifCond .eq 7, 3) := by decide +kernel
theorem dJ9_floorMod_7cf53_14 : decode cJ9_floorMod_7cf53 14 = .ok (.iload_n 2, 1) := by decide +kernel
theorem dJ9_floorMod_7cf53_15 : decode cJ9_floorMod_7cf53 15 = .ok (.iload_n 1, 1) := by decide +kernel
theorem dJ9_floorMod_7cf53_16 : decode cJ9_floorMod_7cf53 16 = .ok (.iadd, 1) := by decide +kernel
theorem dJ9_floorMod_7cf53_17 : decode cJ9_floorMod_7cf53 17 = .ok (.ireturn, 1) := by decide +kernel
theorem dJ9_floorMod_7cf53_18 : decode cJ9_floorMod_7cf53 18 = .ok (.iload_n 2, 1) := by decide +kernel
theorem dJ9_floorMod_7cf53_19 : decode cJ9_floorMod_7cf53 19 = .ok (.ireturn, 1) := by decide +kernel
theorem dJ9_max_7cf53_0 : decode cJ9_max_7cf53 0 = .ok (.iload_n 0, 1) := by decide +kernel
theorem dJ9_max_7cf53_1 : decode cJ9_max_7cf53 1 = .ok (.iload_n 1, 1) := by decide +kernel
theorem dJ9_max_7cf53_2 : decode cJ9_max_7cf53 2 = .ok (.if_icmp .lt 7, 3) := by decide +kernel
theorem dJ9_max_7cf53_5 : decode cJ9_max_7cf53 5 = .ok (.iload_n 0, 1) := by decide +kernel
theorem dJ9_max_7cf53_6 : decode cJ9_max_7cf53 6 = .ok (.goto 4, 3) := by decide +kernel
theorem dJ9_max_7cf53_9 : decode cJ9_max_7cf53 9 = .ok (.iload_n 1, 1) := by decide +kernel
theorem dJ9_max_7cf53_10 : decode cJ9_max_7cf53 10 = .ok (.ireturn, 1) := by decide +kernel
theorem dJ9_min_7cf53_0 : decode cJ9_min_7cf53 0 = .ok (.iload_n 0, 1) := by decide +kernel
theorem dJ9_min_7cf53_1 : decode cJ9_min_7cf53 1 = .ok (.iload_n 1, 1) := by decide +kernel
theorem dJ9_min_7cf53_2 : decode cJ9_min_7cf53 2 = .ok (.if_icmp .gt 7, 3) := by decide +kernel
theorem dJ9_min_7cf53_5 : decode cJ9_min_7cf53 5 = .ok (.iload_n 0, 1) := by decide +kernel
theorem dJ9_min_7cf53_6 : decode cJ9_min_7cf53 6 = .ok (.goto 4, 3) := by decide +kernel
theorem dJ9_min_7cf53_9 : decode cJ9_min_7cf53 9 = .ok (.iload_n 1, 1) := by decide +kernel
theorem dJ9_min_7cf53_10 : decode cJ9_min_7cf53 10 = .ok (.ireturn, 1) := by decide +kernel
end
section
theorem dX3_init_0 : decode cX3_init 0 = .ok (.aload_n 0, 1) := by decide +kernel
theorem dX3_init_1 : decode cX3_init 1 = .ok (.invokespecial 3, 3) := by decide +kernel
theorem dX3_init_4 : decode cX3_init 4 = .ok (.aload_n 0, 1) := by decide +kernel
theorem dX3_init_5 : decode cX3_init 5 = .ok (.bipush 120, 2) := by decide +kernel
theorem dX3_init_7 : decode cX3_init 7 = .ok (.newarray .int, 2) := by decide +kernel
theorem dX3_init_9 : decode cX3_init 9 = .ok (.putfield 9, 3) := by decide +kernel
theorem dX3_init_12 : decode cX3_init 12 = .ok (.aload_n 0, 1) := by decide +kernel
theorem dX3_init_13 : decode cX3_init 13 = .ok (.bipush 24, 2) := by decide +kernel
theorem dX3_init_15 : decode cX3_init 15 = .ok (.newarray .int, 2) := by decide +kernel
theorem dX3_init_17 : decode cX3_init 17 = .ok (.putfield 13, 3) := by decide +kernel
theorem dX3_init_20 : decode cX3_init 20 = .ok (.aload_n 0, 1) := by decide +kernel
theorem dX3_init_21 : decode cX3_init 21 = .ok (.sipush 240, 3) := by decide +kernel
theorem dX3_init_24 : decode cX3_init 24 = .ok (.newarray .int, 2) := by decide +kernel
theorem dX3_init_26 : decode cX3_init 26 = .ok (.putfield 16, 3) := by decide +kernel
theorem dX3_init_29 : decode cX3_init 29 = .ok (.aload_n 0, 1) := by decide +kernel
theorem dX3_init_30 : decode cX3_init 30 = .ok (.iconst 0, 1) := by decide +kernel
theorem dX3_init_31 : decode cX3_init 31 = .ok (.putfield 19, 3) := by decide +kernel
theorem dX3_init_34 : decode cX3_init 34 = .ok (.aload_n 0, 1) := by decide +kernel
theorem dX3_init_35 : decode cX3_init 35 = .ok (.iconst 0, 1) := by decide +kernel
theorem dX3_init_36 : decode cX3_init 36 = .ok (.putfield 23, 3) := by decide +kernel
theorem dX3_init_39 : decode cX3_init 39 = .ok (.aload_n 0, 1) := by decide +kernel
theorem dX3_init_40 : decode cX3_init 40 = .ok (.iconst 0, 1) := by decide +kernel
theorem dX3_init_41 : decode cX3_init 41 = .ok (.putfield 26, 3) := by decide +kernel
theorem dX3_init_44 : decode cX3_init 44 = .ok (.return_, 1) := by decide +kernel
theorem dX3_append_0 : decode cX3_append 0 = .ok (.aload_n 0, 1) := by decide +kernel
theorem dX3_append_1 : decode cX3_append 1 = .ok (.getfield 23, 3) := by decide +kernel
theorem dX3_append_4 : decode cX3_append 4 = .ok (.bipush 120, 2) := by decide +kernel
theorem dX3_append_6 : decode cX3_append 6 = .ok (.if_icmp .lt 5, 3) := by decide +kernel
theorem dX3_append_9 : decode cX3_append 9 = .ok (.iconst 0, 1) := by decide +kernel
theorem dX3_append_10 : decode cX3_append 10 = .ok (.ireturn, 1) := by decide +kernel
theorem dX3_append_11 : decode cX3_append 11 = .ok (.aload_n 0, 1) := by decide +kernel
theorem dX3_append_12 : decode cX3_append 12 = .ok (.getfield 9, 3) := by decide +kernel
theorem dX3_append_15 : decode cX3_append 15 = .ok (.aload_n 0, 1) := by decide +kernel
theorem dX3_append_16 : decode cX3_append 16 = .ok (.getfield 23, 3) := by decide +kernel
theorem dX3_append_19 : decode cX3_append 19 = .ok (.iload_n 1, 1) := by decide +kernel
theorem dX3_append_20 : decode cX3_append 20 = .ok (.iastore, 1) := by decide +kernel
theorem dX3_append_21 : decode cX3_append 21 = .ok (.aload_n 0, 1) := by decide +kernel
theorem dX3_append_22 : decode cX3_append 22 = .ok (.dup, 1) := by decide +kernel
theorem dX3_append_23 : decode cX3_append 23 = .ok (.getfield 23, 3) := by decide +kernel
theorem dX3_append_26 : decode cX3_append 26 = .ok (.iconst 1, 1) := by decide +kernel
theorem dX3_append_27 : decode cX3_append 27 = .ok (.iadd, 1) := by decide +kernel
theorem dX3_append_28 : decode cX3_append 28 = .ok (.putfield 23, 3) := by decide +kernel
theorem dX3_append_31 : decode cX3_append 31 = .ok (.iconst 1, 1) := by decide +kernel
theorem dX3_append_32 : decode cX3_append 32 = .ok (.ireturn, 1) := by decide +kernel
theorem dX3_wipe_0 : decode cX3_wipe 0 = .ok (.aload_n 0, 1) := by decide +kernel
theorem dX3_wipe_1 : decode cX3_wipe 1 = .ok (.iconst 0, 1) := by decide +kernel
theorem dX3_wipe_2 : decode cX3_wipe 2 = .ok (.putfield 23, 3) := by decide +kernel
theorem dX3_wipe_5 : decode cX3_wipe 5 = .ok (.return_, 1) := by decide +kernel
theorem dX3_kind_0 : decode cX3_kind 0 = .ok (.aload_n 0, 1) := by decide +kernel
theorem dX3_kind_1 : decode cX3_kind 1 = .ok (.getfield 13, 3) := by decide +kernel
theorem dX3_kind_4 : decode cX3_kind 4 = .ok (.iload_n 1, 1) := by decide +kernel
theorem dX3_kind_5 : decode cX3_kind 5 = .ok (.iaload, 1) := by decide +kernel
theorem dX3_kind_6 : decode cX3_kind 6 = .ok (.ireturn, 1) := by decide +kernel
theorem dX3_number_0 : decode cX3_number 0 = .ok (.aload_n 0, 1) := by decide +kernel
theorem dX3_number_1 : decode cX3_number 1 = .ok (.getfield 16, 3) := by decide +kernel
theorem dX3_number_4 : decode cX3_number 4 = .ok (.iload_n 1, 1) := by decide +kernel
theorem dX3_number_5 : decode cX3_number 5 = .ok (.bipush 10, 2) := by decide +kernel
theorem dX3_number_7 : decode cX3_number 7 = .ok (.imul, 1) := by decide +kernel
theorem dX3_number_8 : decode cX3_number 8 = .ok (.iload_n 2, 1) := by decide +kernel
theorem dX3_number_9 : decode cX3_number 9 = .ok (.iadd, 1) := by decide +kernel
theorem dX3_number_10 : decode cX3_number 10 = .ok (.iaload, 1) := by decide +kernel
theorem dX3_number_11 : decode cX3_number 11 = .ok (.ireturn, 1) := by decide +kernel
theorem dX3_read_0 : decode cX3_read 0 = .ok (.aload_n 0, 1) := by decide +kernel
theorem dX3_read_1 : decode cX3_read 1 = .ok (.iconst 0, 1) := by decide +kernel
theorem dX3_read_2 : decode cX3_read 2 = .ok (.putfield 19, 3) := by decide +kernel
theorem dX3_read_5 : decode cX3_read 5 = .ok (.aload_n 0, 1) := by decide +kernel
theorem dX3_read_6 : decode cX3_read 6 = .ok (.iconst 0, 1) := by decide +kernel
theorem dX3_read_7 : decode cX3_read 7 = .ok (.putfield 26, 3) := by decide +kernel
theorem dX3_read_10 : decode cX3_read 10 = .ok (.aload_n 0, 1) := by decide +kernel
theorem dX3_read_11 : decode cX3_read 11 = .ok (.invokevirtual 29, 3) := by decide +kernel
theorem dX3_read_14 : decode cX3_read 14 = .ok (.aload_n 0, 1) := by decide +kernel
theorem dX3_read_15 : decode cX3_read 15 = .ok (.getfield 19, 3) := by decide +kernel
theorem dX3_read_18 : decode cX3_read 18 = .ok (.aload_n 0, 1) := by decide +kernel
theorem dX3_read_19 : decode cX3_read 19 = .ok (.getfield 23, 3) := by decide +kernel
theorem dX3_read_22 : decode cX3_read 22 = .ok (.if_icmp .ge 41, 3) := by decide +kernel
theorem dX3_read_25 : decode cX3_read 25 = .ok (.aload_n 0, 1) := by decide +kernel
theorem dX3_read_26 : decode cX3_read 26 = .ok (.getfield 26, 3) := by decide +kernel
theorem dX3_read_29 : decode cX3_read 29 = .ok (.bipush 24, 2) := by decide +kernel
theorem dX3_read_31 : decode cX3_read 31 = .ok (.if_icmp .ge 32, 3) := by decide +kernel
theorem dX3_read_34 : decode cX3_read 34 = .ok (.aload_n 0, 1) := by decide +kernel
theorem dX3_read_35 : decode cX3_read 35 = .ok (.invokevirtual 32, 3) := by decide +kernel
theorem dX3_read_38 : decode cX3_read 38 = .ok (.ifCond .ne 8, 3) := by decide +kernel
theorem dX3_read_41 : decode cX3_read 41 = .ok (.aload_n 0, 1) := by decide +kernel
theorem dX3_read_42 : decode cX3_read 42 = .ok (.getfield 19, 3) := by decide +kernel
theorem dX3_read_45 : decode cX3_read 45 = .ok (.ireturn, 1) := by decide +kernel
theorem dX3_read_46 : decode cX3_read 46 = .ok (.aload_n 0, 1) := by decide +kernel
theorem dX3_read_47 : decode cX3_read 47 = .ok (.dup, 1) := by decide +kernel
theorem dX3_read_48 : decode cX3_read 48 = .ok (.getfield 26, 3) := by decide +kernel
theorem dX3_read_51 : decode cX3_read 51 = .ok (.iconst 1, 1) := by decide +kernel
theorem dX3_read_52 : decode cX3_read 52 = .ok (.iadd, 1) := by decide +kernel
theorem dX3_read_53 : decode cX3_read 53 = .ok (.putfield 26, 3) := by decide +kernel
theorem dX3_read_56 : decode cX3_read 56 = .ok (.aload_n 0, 1) := by decide +kernel
theorem dX3_read_57 : decode cX3_read 57 = .ok (.invokevirtual 29, 3) := by decide +kernel
theorem dX3_read_60 : decode cX3_read 60 = .ok (.goto (-46), 3) := by decide +kernel
theorem dX3_read_63 : decode cX3_read 63 = .ok (.aload_n 0, 1) := by decide +kernel
theorem dX3_read_64 : decode cX3_read 64 = .ok (.getfield 19, 3) := by decide +kernel
theorem dX3_read_67 : decode cX3_read 67 = .ok (.aload_n 0, 1) := by decide +kernel
theorem dX3_read_68 : decode cX3_read 68 = .ok (.getfield 23, 3) := by decide +kernel
theorem dX3_read_71 : decode cX3_read 71 = .ok (.if_icmp .ge 10, 3) := by decide +kernel
theorem dX3_read_74 : decode cX3_read 74 = .ok (.aload_n 0, 1) := by decide +kernel
theorem dX3_read_75 : decode cX3_read 75 = .ok (.getfield 19, 3) := by decide +kernel
theorem dX3_read_78 : decode cX3_read 78 = .ok (.goto 4, 3) := by decide +kernel
theorem dX3_read_81 : decode cX3_read 81 = .ok (.iconst (-1), 1) := by decide +kernel
theorem dX3_read_82 : decode cX3_read 82 = .ok (.ireturn, 1) := by decide +kernel
theorem dX3_readItem_0 : decode cX3_readItem 0 = .ok (.aload_n 0, 1) := by decide +kernel
theorem dX3_readItem_1 : decode cX3_readItem 1 = .ok (.getfield 9, 3) := by decide +kernel
theorem dX3_readItem_4 : decode cX3_readItem 4 = .ok (.aload_n 0, 1) := by decide +kernel
theorem dX3_readItem_5 : decode cX3_readItem 5 = .ok (.getfield 19, 3) := by decide +kernel
theorem dX3_readItem_8 : decode cX3_readItem 8 = .ok (.iaload, 1) := by decide +kernel
theorem dX3_readItem_9 : decode cX3_readItem 9 = .ok (.istore_n 1, 1) := by decide +kernel
theorem dX3_readItem_10 : decode cX3_readItem 10 = .ok (.iload_n 1, 1) := by decide +kernel
theorem dX3_readItem_11 : decode cX3_readItem 11 = .ok (.lookupswitch 69 #[(99, 57), (102, 45), (108, 33)], 33) := by decide +kernel
theorem dX3_readItem_44 : decode cX3_readItem 44 = .ok (.aload_n 0, 1) := by decide +kernel
theorem dX3_readItem_45 : decode cX3_readItem 45 = .ok (.iload_n 1, 1) := by decide +kernel
theorem dX3_readItem_46 : decode cX3_readItem 46 = .ok (.getstatic 36, 3) := by decide +kernel
theorem dX3_readItem_49 : decode cX3_readItem 49 = .ok (.getstatic 39, 3) := by decide +kernel
theorem dX3_readItem_52 : decode cX3_readItem 52 = .ok (.invokevirtual 42, 3) := by decide +kernel
theorem dX3_readItem_55 : decode cX3_readItem 55 = .ok (.ireturn, 1) := by decide +kernel
theorem dX3_readItem_56 : decode cX3_readItem 56 = .ok (.aload_n 0, 1) := by decide +kernel
theorem dX3_readItem_57 : decode cX3_readItem 57 = .ok (.iload_n 1, 1) := by decide +kernel
theorem dX3_readItem_58 : decode cX3_readItem 58 = .ok (.getstatic 46, 3) := by decide +kernel
theorem dX3_readItem_61 : decode cX3_readItem 61 = .ok (.getstatic 49, 3) := by decide +kernel
theorem dX3_readItem_64 : decode cX3_readItem 64 = .ok (.invokevirtual 42, 3) := by decide +kernel
theorem dX3_readItem_67 : decode cX3_readItem 67 = .ok (.ireturn, 1) := by decide +kernel
theorem dX3_readItem_68 : decode cX3_readItem 68 = .ok (.aload_n 0, 1) := by decide +kernel
theorem dX3_readItem_69 : decode cX3_readItem 69 = .ok (.iload_n 1, 1) := by decide +kernel
theorem dX3_readItem_70 : decode cX3_readItem 70 = .ok (.getstatic 52, 3) := by decide +kernel
theorem dX3_readItem_73 : decode cX3_readItem 73 = .ok (.getstatic 55, 3) := by decide +kernel
theorem dX3_readItem_76 : decode cX3_readItem 76 = .ok (.invokevirtual 42, 3) := by decide +kernel
theorem dX3_readItem_79 : decode cX3_readItem 79 = .ok (.ireturn, 1) := by decide +kernel
theorem dX3_readItem_80 : decode cX3_readItem 80 = .ok (.iconst 0, 1) := by decide +kernel
theorem dX3_readItem_81 : decode cX3_readItem 81 = .ok (.ireturn, 1) := by decide +kernel
theorem dX3_readForm_0 : decode cX3_readForm 0 = .ok (.aload_n 0, 1) := by decide +kernel
theorem dX3_readForm_1 : decode cX3_readForm 1 = .ok (.getfield 13, 3) := by decide +kernel
theorem dX3_readForm_4 : decode cX3_readForm 4 = .ok (.aload_n 0, 1) := by decide +kernel
theorem dX3_readForm_5 : decode cX3_readForm 5 = .ok (.getfield 26, 3) := by decide +kernel
theorem dX3_readForm_8 : decode cX3_readForm 8 = .ok (.iload_n 1, 1) := by decide +kernel
theorem dX3_readForm_9 : decode cX3_readForm 9 = .ok (.iastore, 1) := by decide +kernel
theorem dX3_readForm_10 : decode cX3_readForm 10 = .ok (.aload_n 0, 1) := by decide +kernel
theorem dX3_readForm_11 : decode cX3_readForm 11 = .ok (.dup, 1) := by decide +kernel
theorem dX3_readForm_12 : decode cX3_readForm 12 = .ok (.getfield 19, 3) := by decide +kernel
theorem dX3_readForm_15 : decode cX3_readForm 15 = .ok (.iconst 1, 1) := by decide +kernel
theorem dX3_readForm_16 : decode cX3_readForm 16 = .ok (.iadd, 1) := by decide +kernel
theorem dX3_readForm_17 : decode cX3_readForm 17 = .ok (.putfield 19, 3) := by decide +kernel
theorem dX3_readForm_20 : decode cX3_readForm 20 = .ok (.iconst 0, 1) := by decide +kernel
theorem dX3_readForm_21 : decode cX3_readForm 21 = .ok (.istore 4, 2) := by decide +kernel
theorem dX3_readForm_23 : decode cX3_readForm 23 = .ok (.iload 4, 2) := by decide +kernel
theorem dX3_readForm_25 : decode cX3_readForm 25 = .ok (.aload_n 2, 1) := by decide +kernel
theorem dX3_readForm_26 : decode cX3_readForm 26 = .ok (.arraylength, 1) := by decide +kernel
theorem dX3_readForm_27 : decode cX3_readForm 27 = .ok (.if_icmp .ge 40, 3) := by decide +kernel
theorem dX3_readForm_30 : decode cX3_readForm 30 = .ok (.aload_n 0, 1) := by decide +kernel
theorem dX3_readForm_31 : decode cX3_readForm 31 = .ok (.invokevirtual 29, 3) := by decide +kernel
theorem dX3_readForm_34 : decode cX3_readForm 34 = .ok (.aload_n 0, 1) := by decide +kernel
theorem dX3_readForm_35 : decode cX3_readForm 35 = .ok (.aload_n 0, 1) := by decide +kernel
theorem dX3_readForm_36 : decode cX3_readForm 36 = .ok (.getfield 26, 3) := by decide +kernel
theorem dX3_readForm_39 : decode cX3_readForm 39 = .ok (.bipush 10, 2) := by decide +kernel
theorem dX3_readForm_41 : decode cX3_readForm 41 = .ok (.imul, 1) := by decide +kernel
theorem dX3_readForm_42 : decode cX3_readForm 42 = .ok (.iload 4, 2) := by decide +kernel
theorem dX3_readForm_44 : decode cX3_readForm 44 = .ok (.iadd, 1) := by decide +kernel
theorem dX3_readForm_45 : decode cX3_readForm 45 = .ok (.aload_n 2, 1) := by decide +kernel
theorem dX3_readForm_46 : decode cX3_readForm 46 = .ok (.iload 4, 2) := by decide +kernel
theorem dX3_readForm_48 : decode cX3_readForm 48 = .ok (.iaload, 1) := by decide +kernel
theorem dX3_readForm_49 : decode cX3_readForm 49 = .ok (.aload_n 3, 1) := by decide +kernel
theorem dX3_readForm_50 : decode cX3_readForm 50 = .ok (.iload 4, 2) := by decide +kernel
theorem dX3_readForm_52 : decode cX3_readForm 52 = .ok (.iaload, 1) := by decide +kernel
theorem dX3_readForm_53 : decode cX3_readForm 53 = .ok (.invokevirtual 58, 3) := by decide +kernel
theorem dX3_readForm_56 : decode cX3_readForm 56 = .ok (.ifCond .ne 5, 3) := by decide +kernel
theorem dX3_readForm_59 : decode cX3_readForm 59 = .ok (.iconst 0, 1) := by decide +kernel
theorem dX3_readForm_60 : decode cX3_readForm 60 = .ok (.ireturn, 1) := by decide +kernel
theorem dX3_readForm_61 : decode cX3_readForm 61 = .ok (.iinc 4 1, 3) := by decide +kernel
theorem dX3_readForm_64 : decode cX3_readForm 64 = .ok (.goto (-41), 3) := by decide +kernel
theorem dX3_readForm_67 : decode cX3_readForm 67 = .ok (.aload_n 0, 1) := by decide +kernel
theorem dX3_readForm_68 : decode cX3_readForm 68 = .ok (.invokevirtual 29, 3) := by decide +kernel
theorem dX3_readForm_71 : decode cX3_readForm 71 = .ok (.aload_n 0, 1) := by decide +kernel
theorem dX3_readForm_72 : decode cX3_readForm 72 = .ok (.getfield 19, 3) := by decide +kernel
theorem dX3_readForm_75 : decode cX3_readForm 75 = .ok (.aload_n 0, 1) := by decide +kernel
theorem dX3_readForm_76 : decode cX3_readForm 76 = .ok (.getfield 23, 3) := by decide +kernel
theorem dX3_readForm_79 : decode cX3_readForm 79 = .ok (.if_icmp .ge 17, 3) := by decide +kernel
theorem dX3_readForm_82 : decode cX3_readForm 82 = .ok (.aload_n 0, 1) := by decide +kernel
theorem dX3_readForm_83 : decode cX3_readForm 83 = .ok (.getfield 9, 3) := by decide +kernel
theorem dX3_readForm_86 : decode cX3_readForm 86 = .ok (.aload_n 0, 1) := by decide +kernel
theorem dX3_readForm_87 : decode cX3_readForm 87 = .ok (.getfield 19, 3) := by decide +kernel
theorem dX3_readForm_90 : decode cX3_readForm 90 = .ok (.iaload, 1) := by decide +kernel
theorem dX3_readForm_91 : decode cX3_readForm 91 = .ok (.bipush 59, 2) := by decide +kernel
theorem dX3_readForm_93 : decode cX3_readForm 93 = .ok (.if_icmp .eq 5, 3) := by decide +kernel
theorem dX3_readForm_96 : decode cX3_readForm 96 = .ok (.iconst 0, 1) := by decide +kernel
theorem dX3_readForm_97 : decode cX3_readForm 97 = .ok (.ireturn, 1) := by decide +kernel
theorem dX3_readForm_98 : decode cX3_readForm 98 = .ok (.aload_n 0, 1) := by decide +kernel
theorem dX3_readForm_99 : decode cX3_readForm 99 = .ok (.dup, 1) := by decide +kernel
theorem dX3_readForm_100 : decode cX3_readForm 100 = .ok (.getfield 19, 3) := by decide +kernel
theorem dX3_readForm_103 : decode cX3_readForm 103 = .ok (.iconst 1, 1) := by decide +kernel
theorem dX3_readForm_104 : decode cX3_readForm 104 = .ok (.iadd, 1) := by decide +kernel
theorem dX3_readForm_105 : decode cX3_readForm 105 = .ok (.putfield 19, 3) := by decide +kernel
theorem dX3_readForm_108 : decode cX3_readForm 108 = .ok (.iconst 1, 1) := by decide +kernel
theorem dX3_readForm_109 : decode cX3_readForm 109 = .ok (.ireturn, 1) := by decide +kernel
theorem dX3_readNumber_0 : decode cX3_readNumber 0 = .ok (.aload_n 0, 1) := by decide +kernel
theorem dX3_readNumber_1 : decode cX3_readNumber 1 = .ok (.getfield 19, 3) := by decide +kernel
theorem dX3_readNumber_4 : decode cX3_readNumber 4 = .ok (.aload_n 0, 1) := by decide +kernel
theorem dX3_readNumber_5 : decode cX3_readNumber 5 = .ok (.getfield 23, 3) := by decide +kernel
theorem dX3_readNumber_8 : decode cX3_readNumber 8 = .ok (.if_icmp .ge 21, 3) := by decide +kernel
theorem dX3_readNumber_11 : decode cX3_readNumber 11 = .ok (.aload_n 0, 1) := by decide +kernel
theorem dX3_readNumber_12 : decode cX3_readNumber 12 = .ok (.getfield 9, 3) := by decide +kernel
theorem dX3_readNumber_15 : decode cX3_readNumber 15 = .ok (.aload_n 0, 1) := by decide +kernel
theorem dX3_readNumber_16 : decode cX3_readNumber 16 = .ok (.getfield 19, 3) := by decide +kernel
theorem dX3_readNumber_19 : decode cX3_readNumber 19 = .ok (.iaload, 1) := by decide +kernel
theorem dX3_readNumber_20 : decode cX3_readNumber 20 = .ok (.bipush 45, 2) := by decide +kernel
theorem dX3_readNumber_22 : decode cX3_readNumber 22 = .ok (.if_icmp .ne 7, 3) := by decide +kernel
theorem dX3_readNumber_25 : decode cX3_readNumber 25 = .ok (.iconst 1, 1) := by decide +kernel
theorem dX3_readNumber_26 : decode cX3_readNumber 26 = .ok (.goto 4, 3) := by decide +kernel
theorem dX3_readNumber_29 : decode cX3_readNumber 29 = .ok (.iconst 0, 1) := by decide +kernel
theorem dX3_readNumber_30 : decode cX3_readNumber 30 = .ok (.istore 4, 2) := by decide +kernel
theorem dX3_readNumber_32 : decode cX3_readNumber 32 = .ok (.iload 4, 2) := by decide +kernel
theorem dX3_readNumber_34 : decode cX3_readNumber 34 = .ok (.ifCond .eq 12, 3) := by decide +kernel
theorem dX3_readNumber_37 : decode cX3_readNumber 37 = .ok (.aload_n 0, 1) := by decide +kernel
theorem dX3_readNumber_38 : decode cX3_readNumber 38 = .ok (.getfield 19, 3) := by decide +kernel
theorem dX3_readNumber_41 : decode cX3_readNumber 41 = .ok (.iconst 1, 1) := by decide +kernel
theorem dX3_readNumber_42 : decode cX3_readNumber 42 = .ok (.iadd, 1) := by decide +kernel
theorem dX3_readNumber_43 : decode cX3_readNumber 43 = .ok (.goto 7, 3) := by decide +kernel
theorem dX3_readNumber_46 : decode cX3_readNumber 46 = .ok (.aload_n 0, 1) := by decide +kernel
theorem dX3_readNumber_47 : decode cX3_readNumber 47 = .ok (.getfield 19, 3) := by decide +kernel
theorem dX3_readNumber_50 : decode cX3_readNumber 50 = .ok (.istore 5, 2) := by decide +kernel
theorem dX3_readNumber_52 : decode cX3_readNumber 52 = .ok (.iconst 0, 1) := by decide +kernel
theorem dX3_readNumber_53 : decode cX3_readNumber 53 = .ok (.istore 6, 2) := by decide +kernel
theorem dX3_readNumber_55 : decode cX3_readNumber 55 = .ok (.iconst 0, 1) := by decide +kernel
theorem dX3_readNumber_56 : decode cX3_readNumber 56 = .ok (.istore 7, 2) := by decide +kernel
theorem dX3_readNumber_58 : decode cX3_readNumber 58 = .ok (.iload 5, 2) := by decide +kernel
theorem dX3_readNumber_60 : decode cX3_readNumber 60 = .ok (.iload 6, 2) := by decide +kernel
theorem dX3_readNumber_62 : decode cX3_readNumber 62 = .ok (.iadd, 1) := by decide +kernel
theorem dX3_readNumber_63 : decode cX3_readNumber 63 = .ok (.aload_n 0, 1) := by decide +kernel
theorem dX3_readNumber_64 : decode cX3_readNumber 64 = .ok (.getfield 23, 3) := by decide +kernel
theorem dX3_readNumber_67 : decode cX3_readNumber 67 = .ok (.if_icmp .ge 52, 3) := by decide +kernel
theorem dX3_readNumber_70 : decode cX3_readNumber 70 = .ok (.aload_n 0, 1) := by decide +kernel
theorem dX3_readNumber_71 : decode cX3_readNumber 71 = .ok (.getfield 9, 3) := by decide +kernel
theorem dX3_readNumber_74 : decode cX3_readNumber 74 = .ok (.iload 5, 2) := by decide +kernel
theorem dX3_readNumber_76 : decode cX3_readNumber 76 = .ok (.iload 6, 2) := by decide +kernel
theorem dX3_readNumber_78 : decode cX3_readNumber 78 = .ok (.iadd, 1) := by decide +kernel
theorem dX3_readNumber_79 : decode cX3_readNumber 79 = .ok (.iaload, 1) := by decide +kernel
theorem dX3_readNumber_80 : decode cX3_readNumber 80 = .ok (.invokestatic 62, 3) := by decide +kernel
theorem dX3_readNumber_83 : decode cX3_readNumber 83 = .ok (.ifCond .eq 36, 3) := by decide +kernel
theorem dX3_readNumber_86 : decode cX3_readNumber 86 = .ok (.iload 6, 2) := by decide +kernel
theorem dX3_readNumber_88 : decode cX3_readNumber 88 = .ok (.iconst 3, 1) := by decide +kernel
theorem dX3_readNumber_89 : decode cX3_readNumber 89 = .ok (.if_icmp .ge 24, 3) := by decide +kernel
theorem dX3_readNumber_92 : decode cX3_readNumber 92 = .ok (.iload 7, 2) := by decide +kernel
theorem dX3_readNumber_94 : decode cX3_readNumber 94 = .ok (.bipush 10, 2) := by decide +kernel
theorem dX3_readNumber_96 : decode cX3_readNumber 96 = .ok (.imul, 1) := by decide +kernel
theorem dX3_readNumber_97 : decode cX3_readNumber 97 = .ok (.aload_n 0, 1) := by decide +kernel
theorem dX3_readNumber_98 : decode cX3_readNumber 98 = .ok (.getfield 9, 3) := by decide +kernel
theorem dX3_readNumber_101 : decode cX3_readNumber 101 = .ok (.iload 5, 2) := by decide +kernel
theorem dX3_readNumber_103 : decode cX3_readNumber 103 = .ok (.iload 6, 2) := by decide +kernel
theorem dX3_readNumber_105 : decode cX3_readNumber 105 = .ok (.iadd, 1) := by decide +kernel
theorem dX3_readNumber_106 : decode cX3_readNumber 106 = .ok (.iaload, 1) := by decide +kernel
theorem dX3_readNumber_107 : decode cX3_readNumber 107 = .ok (.iadd, 1) := by decide +kernel
theorem dX3_readNumber_108 : decode cX3_readNumber 108 = .ok (.bipush 48, 2) := by decide +kernel
theorem dX3_readNumber_110 : decode cX3_readNumber 110 = .ok (.isub, 1) := by decide +kernel
theorem dX3_readNumber_111 : decode cX3_readNumber 111 = .ok (.istore 7, 2) := by decide +kernel
theorem dX3_readNumber_113 : decode cX3_readNumber 113 = .ok (.iinc 6 1, 3) := by decide +kernel
theorem dX3_readNumber_116 : decode cX3_readNumber 116 = .ok (.goto (-58), 3) := by decide +kernel
theorem dX3_readNumber_119 : decode cX3_readNumber 119 = .ok (.iload 6, 2) := by decide +kernel
theorem dX3_readNumber_121 : decode cX3_readNumber 121 = .ok (.ifCond .eq 9, 3) := by decide +kernel
theorem dX3_readNumber_124 : decode cX3_readNumber 124 = .ok (.iload 6, 2) := by decide +kernel
theorem dX3_readNumber_126 : decode cX3_readNumber 126 = .ok (.iconst 3, 1) := by decide +kernel
theorem dX3_readNumber_127 : decode cX3_readNumber 127 = .ok (.if_icmp .le 5, 3) := by decide +kernel
theorem dX3_readNumber_130 : decode cX3_readNumber 130 = .ok (.iconst 0, 1) := by decide +kernel
theorem dX3_readNumber_131 : decode cX3_readNumber 131 = .ok (.ireturn, 1) := by decide +kernel
theorem dX3_readNumber_132 : decode cX3_readNumber 132 = .ok (.aload_n 0, 1) := by decide +kernel
theorem dX3_readNumber_133 : decode cX3_readNumber 133 = .ok (.getfield 9, 3) := by decide +kernel
theorem dX3_readNumber_136 : decode cX3_readNumber 136 = .ok (.iload 5, 2) := by decide +kernel
theorem dX3_readNumber_138 : decode cX3_readNumber 138 = .ok (.iaload, 1) := by decide +kernel
theorem dX3_readNumber_139 : decode cX3_readNumber 139 = .ok (.bipush 48, 2) := by decide +kernel
theorem dX3_readNumber_141 : decode cX3_readNumber 141 = .ok (.if_icmp .ne 16, 3) := by decide +kernel
theorem dX3_readNumber_144 : decode cX3_readNumber 144 = .ok (.iload 6, 2) := by decide +kernel
theorem dX3_readNumber_146 : decode cX3_readNumber 146 = .ok (.iconst 1, 1) := by decide +kernel
theorem dX3_readNumber_147 : decode cX3_readNumber 147 = .ok (.if_icmp .gt 8, 3) := by decide +kernel
theorem dX3_readNumber_150 : decode cX3_readNumber 150 = .ok (.iload 4, 2) := by decide +kernel
theorem dX3_readNumber_152 : decode cX3_readNumber 152 = .ok (.ifCond .eq 5, 3) := by decide +kernel
theorem dX3_readNumber_155 : decode cX3_readNumber 155 = .ok (.iconst 0, 1) := by decide +kernel
theorem dX3_readNumber_156 : decode cX3_readNumber 156 = .ok (.ireturn, 1) := by decide +kernel
theorem dX3_readNumber_157 : decode cX3_readNumber 157 = .ok (.iload 4, 2) := by decide +kernel
theorem dX3_readNumber_159 : decode cX3_readNumber 159 = .ok (.ifCond .eq 9, 3) := by decide +kernel
theorem dX3_readNumber_162 : decode cX3_readNumber 162 = .ok (.iload 7, 2) := by decide +kernel
theorem dX3_readNumber_164 : decode cX3_readNumber 164 = .ok (.ineg, 1) := by decide +kernel
theorem dX3_readNumber_165 : decode cX3_readNumber 165 = .ok (.goto 5, 3) := by decide +kernel
theorem dX3_readNumber_168 : decode cX3_readNumber 168 = .ok (.iload 7, 2) := by decide +kernel
theorem dX3_readNumber_170 : decode cX3_readNumber 170 = .ok (.istore 7, 2) := by decide +kernel
theorem dX3_readNumber_172 : decode cX3_readNumber 172 = .ok (.iload 7, 2) := by decide +kernel
theorem dX3_readNumber_174 : decode cX3_readNumber 174 = .ok (.iload_n 2, 1) := by decide +kernel
theorem dX3_readNumber_175 : decode cX3_readNumber 175 = .ok (.iload_n 3, 1) := by decide +kernel
theorem dX3_readNumber_176 : decode cX3_readNumber 176 = .ok (.invokestatic 66, 3) := by decide +kernel
theorem dX3_readNumber_179 : decode cX3_readNumber 179 = .ok (.ifCond .ne 5, 3) := by decide +kernel
theorem dX3_readNumber_182 : decode cX3_readNumber 182 = .ok (.iconst 0, 1) := by decide +kernel
theorem dX3_readNumber_183 : decode cX3_readNumber 183 = .ok (.ireturn, 1) := by decide +kernel
theorem dX3_readNumber_184 : decode cX3_readNumber 184 = .ok (.aload_n 0, 1) := by decide +kernel
theorem dX3_readNumber_185 : decode cX3_readNumber 185 = .ok (.getfield 16, 3) := by decide +kernel
theorem dX3_readNumber_188 : decode cX3_readNumber 188 = .ok (.iload_n 1, 1) := by decide +kernel
theorem dX3_readNumber_189 : decode cX3_readNumber 189 = .ok (.iload 7, 2) := by decide +kernel
theorem dX3_readNumber_191 : decode cX3_readNumber 191 = .ok (.iastore, 1) := by decide +kernel
theorem dX3_readNumber_192 : decode cX3_readNumber 192 = .ok (.aload_n 0, 1) := by decide +kernel
theorem dX3_readNumber_193 : decode cX3_readNumber 193 = .ok (.iload 5, 2) := by decide +kernel
theorem dX3_readNumber_195 : decode cX3_readNumber 195 = .ok (.iload 6, 2) := by decide +kernel
theorem dX3_readNumber_197 : decode cX3_readNumber 197 = .ok (.iadd, 1) := by decide +kernel
theorem dX3_readNumber_198 : decode cX3_readNumber 198 = .ok (.putfield 19, 3) := by decide +kernel
theorem dX3_readNumber_201 : decode cX3_readNumber 201 = .ok (.iconst 1, 1) := by decide +kernel
theorem dX3_readNumber_202 : decode cX3_readNumber 202 = .ok (.ireturn, 1) := by decide +kernel
theorem dX3_isFigure_0 : decode cX3_isFigure 0 = .ok (.iload_n 0, 1) := by decide +kernel
theorem dX3_isFigure_1 : decode cX3_isFigure 1 = .ok (.bipush 48, 2) := by decide +kernel
theorem dX3_isFigure_3 : decode cX3_isFigure 3 = .ok (.bipush 57, 2) := by decide +kernel
theorem dX3_isFigure_5 : decode cX3_isFigure 5 = .ok (.invokestatic 66, 3) := by decide +kernel
theorem dX3_isFigure_8 : decode cX3_isFigure 8 = .ok (.ireturn, 1) := by decide +kernel
theorem dX3_skipBlanks_0 : decode cX3_skipBlanks 0 = .ok (.aload_n 0, 1) := by decide +kernel
theorem dX3_skipBlanks_1 : decode cX3_skipBlanks 1 = .ok (.getfield 19, 3) := by decide +kernel
theorem dX3_skipBlanks_4 : decode cX3_skipBlanks 4 = .ok (.aload_n 0, 1) := by decide +kernel
theorem dX3_skipBlanks_5 : decode cX3_skipBlanks 5 = .ok (.getfield 23, 3) := by decide +kernel
theorem dX3_skipBlanks_8 : decode cX3_skipBlanks 8 = .ok (.if_icmp .ge 30, 3) := by decide +kernel
theorem dX3_skipBlanks_11 : decode cX3_skipBlanks 11 = .ok (.aload_n 0, 1) := by decide +kernel
theorem dX3_skipBlanks_12 : decode cX3_skipBlanks 12 = .ok (.getfield 9, 3) := by decide +kernel
theorem dX3_skipBlanks_15 : decode cX3_skipBlanks 15 = .ok (.aload_n 0, 1) := by decide +kernel
theorem dX3_skipBlanks_16 : decode cX3_skipBlanks 16 = .ok (.getfield 19, 3) := by decide +kernel
theorem dX3_skipBlanks_19 : decode cX3_skipBlanks 19 = .ok (.iaload, 1) := by decide +kernel
theorem dX3_skipBlanks_20 : decode cX3_skipBlanks 20 = .ok (.bipush 32, 2) := by decide +kernel
theorem dX3_skipBlanks_22 : decode cX3_skipBlanks 22 = .ok (.if_icmp .ne 16, 3) := by decide +kernel
theorem dX3_skipBlanks_25 : decode cX3_skipBlanks 25 = .ok (.aload_n 0, 1) := by decide +kernel
theorem dX3_skipBlanks_26 : decode cX3_skipBlanks 26 = .ok (.dup, 1) := by decide +kernel
theorem dX3_skipBlanks_27 : decode cX3_skipBlanks 27 = .ok (.getfield 19, 3) := by decide +kernel
theorem dX3_skipBlanks_30 : decode cX3_skipBlanks 30 = .ok (.iconst 1, 1) := by decide +kernel
theorem dX3_skipBlanks_31 : decode cX3_skipBlanks 31 = .ok (.iadd, 1) := by decide +kernel
theorem dX3_skipBlanks_32 : decode cX3_skipBlanks 32 = .ok (.putfield 19, 3) := by decide +kernel
theorem dX3_skipBlanks_35 : decode cX3_skipBlanks 35 = .ok (.goto (-35), 3) := by decide +kernel
theorem dX3_skipBlanks_38 : decode cX3_skipBlanks 38 = .ok (.return_, 1) := by decide +kernel
theorem dX4_init_0 : decode cX4_init 0 = .ok (.aload_n 0, 1) := by decide +kernel
theorem dX4_init_1 : decode cX4_init 1 = .ok (.invokespecial 1, 3) := by decide +kernel
theorem dX4_init_4 : decode cX4_init 4 = .ok (.aload_n 0, 1) := by decide +kernel
theorem dX4_init_5 : decode cX4_init 5 = .ok (.new 7, 3) := by decide +kernel
theorem dX4_init_8 : decode cX4_init 8 = .ok (.dup, 1) := by decide +kernel
theorem dX4_init_9 : decode cX4_init 9 = .ok (.invokespecial 9, 3) := by decide +kernel
theorem dX4_init_12 : decode cX4_init 12 = .ok (.putfield 10, 3) := by decide +kernel
theorem dX4_init_15 : decode cX4_init 15 = .ok (.aload_n 0, 1) := by decide +kernel
theorem dX4_init_16 : decode cX4_init 16 = .ok (.new 16, 3) := by decide +kernel
theorem dX4_init_19 : decode cX4_init 19 = .ok (.dup, 1) := by decide +kernel
theorem dX4_init_20 : decode cX4_init 20 = .ok (.invokespecial 18, 3) := by decide +kernel
theorem dX4_init_23 : decode cX4_init 23 = .ok (.putfield 19, 3) := by decide +kernel
theorem dX4_init_26 : decode cX4_init 26 = .ok (.aload_n 0, 1) := by decide +kernel
theorem dX4_init_27 : decode cX4_init 27 = .ok (.new 16, 3) := by decide +kernel
theorem dX4_init_30 : decode cX4_init 30 = .ok (.dup, 1) := by decide +kernel
theorem dX4_init_31 : decode cX4_init 31 = .ok (.invokespecial 18, 3) := by decide +kernel
theorem dX4_init_34 : decode cX4_init 34 = .ok (.putfield 23, 3) := by decide +kernel
theorem dX4_init_37 : decode cX4_init 37 = .ok (.aload_n 0, 1) := by decide +kernel
theorem dX4_init_38 : decode cX4_init 38 = .ok (.new 26, 3) := by decide +kernel
theorem dX4_init_41 : decode cX4_init 41 = .ok (.dup, 1) := by decide +kernel
theorem dX4_init_42 : decode cX4_init 42 = .ok (.invokespecial 28, 3) := by decide +kernel
theorem dX4_init_45 : decode cX4_init 45 = .ok (.putfield 29, 3) := by decide +kernel
theorem dX4_init_48 : decode cX4_init 48 = .ok (.aload_n 0, 1) := by decide +kernel
theorem dX4_init_49 : decode cX4_init 49 = .ok (.new 33, 3) := by decide +kernel
theorem dX4_init_52 : decode cX4_init 52 = .ok (.dup, 1) := by decide +kernel
theorem dX4_init_53 : decode cX4_init 53 = .ok (.invokespecial 35, 3) := by decide +kernel
theorem dX4_init_56 : decode cX4_init 56 = .ok (.putfield 36, 3) := by decide +kernel
theorem dX4_init_59 : decode cX4_init 59 = .ok (.aload_n 0, 1) := by decide +kernel
theorem dX4_init_60 : decode cX4_init 60 = .ok (.iconst 2, 1) := by decide +kernel
theorem dX4_init_61 : decode cX4_init 61 = .ok (.anewarray 16, 3) := by decide +kernel
theorem dX4_init_64 : decode cX4_init 64 = .ok (.putfield 40, 3) := by decide +kernel
theorem dX4_init_67 : decode cX4_init 67 = .ok (.iconst 0, 1) := by decide +kernel
theorem dX4_init_68 : decode cX4_init 68 = .ok (.istore_n 1, 1) := by decide +kernel
theorem dX4_init_69 : decode cX4_init 69 = .ok (.iload_n 1, 1) := by decide +kernel
theorem dX4_init_70 : decode cX4_init 70 = .ok (.iconst 2, 1) := by decide +kernel
theorem dX4_init_71 : decode cX4_init 71 = .ok (.if_icmp .ge 22, 3) := by decide +kernel
theorem dX4_init_74 : decode cX4_init 74 = .ok (.aload_n 0, 1) := by decide +kernel
theorem dX4_init_75 : decode cX4_init 75 = .ok (.getfield 40, 3) := by decide +kernel
theorem dX4_init_78 : decode cX4_init 78 = .ok (.iload_n 1, 1) := by decide +kernel
theorem dX4_init_79 : decode cX4_init 79 = .ok (.new 16, 3) := by decide +kernel
theorem dX4_init_82 : decode cX4_init 82 = .ok (.dup, 1) := by decide +kernel
theorem dX4_init_83 : decode cX4_init 83 = .ok (.invokespecial 18, 3) := by decide +kernel
theorem dX4_init_86 : decode cX4_init 86 = .ok (.aastore, 1) := by decide +kernel
theorem dX4_init_87 : decode cX4_init 87 = .ok (.iinc 1 1, 3) := by decide +kernel
theorem dX4_init_90 : decode cX4_init 90 = .ok (.goto (-21), 3) := by decide +kernel
theorem dX4_init_93 : decode cX4_init 93 = .ok (.aload_n 0, 1) := by decide +kernel
theorem dX4_init_94 : decode cX4_init 94 = .ok (.iconst 2, 1) := by decide +kernel
theorem dX4_init_95 : decode cX4_init 95 = .ok (.newarray .boolean, 2) := by decide +kernel
theorem dX4_init_97 : decode cX4_init 97 = .ok (.putfield 44, 3) := by decide +kernel
theorem dX4_init_100 : decode cX4_init 100 = .ok (.return_, 1) := by decide +kernel
theorem dX4_type_0 : decode cX4_type 0 = .ok (.iload_n 1, 1) := by decide +kernel
theorem dX4_type_1 : decode cX4_type 1 = .ok (.iconst 0, 1) := by decide +kernel
theorem dX4_type_2 : decode cX4_type 2 = .ok (.sipush 255, 3) := by decide +kernel
theorem dX4_type_5 : decode cX4_type 5 = .ok (.invokestatic 48, 3) := by decide +kernel
theorem dX4_type_8 : decode cX4_type 8 = .ok (.ifCond .ne 5, 3) := by decide +kernel
theorem dX4_type_11 : decode cX4_type 11 = .ok (.iconst (-1), 1) := by decide +kernel
theorem dX4_type_12 : decode cX4_type 12 = .ok (.ireturn, 1) := by decide +kernel
theorem dX4_type_13 : decode cX4_type 13 = .ok (.aload_n 0, 1) := by decide +kernel
theorem dX4_type_14 : decode cX4_type 14 = .ok (.getfield 10, 3) := by decide +kernel
theorem dX4_type_17 : decode cX4_type 17 = .ok (.iload_n 1, 1) := by decide +kernel
theorem dX4_type_18 : decode cX4_type 18 = .ok (.invokevirtual 52, 3) := by decide +kernel
theorem dX4_type_21 : decode cX4_type 21 = .ok (.ifCond .eq 13, 3) := by decide +kernel
theorem dX4_type_24 : decode cX4_type 24 = .ok (.aload_n 0, 1) := by decide +kernel
theorem dX4_type_25 : decode cX4_type 25 = .ok (.getfield 10, 3) := by decide +kernel
theorem dX4_type_28 : decode cX4_type 28 = .ok (.getfield 56, 3) := by decide +kernel
theorem dX4_type_31 : decode cX4_type 31 = .ok (.goto 5, 3) := by decide +kernel
theorem dX4_type_34 : decode cX4_type 34 = .ok (.bipush (-3), 2) := by decide +kernel
theorem dX4_type_36 : decode cX4_type 36 = .ok (.ireturn, 1) := by decide +kernel
theorem dX4_clear_0 : decode cX4_clear 0 = .ok (.aload_n 0, 1) := by decide +kernel
theorem dX4_clear_1 : decode cX4_clear 1 = .ok (.getfield 10, 3) := by decide +kernel
theorem dX4_clear_4 : decode cX4_clear 4 = .ok (.getfield 56, 3) := by decide +kernel
theorem dX4_clear_7 : decode cX4_clear 7 = .ok (.istore_n 1, 1) := by decide +kernel
theorem dX4_clear_8 : decode cX4_clear 8 = .ok (.aload_n 0, 1) := by decide +kernel
theorem dX4_clear_9 : decode cX4_clear 9 = .ok (.getfield 10, 3) := by decide +kernel
theorem dX4_clear_12 : decode cX4_clear 12 = .ok (.invokevirtual 60, 3) := by decide +kernel
theorem dX4_clear_15 : decode cX4_clear 15 = .ok (.iload_n 1, 1) := by decide +kernel
theorem dX4_clear_16 : decode cX4_clear 16 = .ok (.ireturn, 1) := by decide +kernel
theorem dX4_posts_0 : decode cX4_posts 0 = .ok (.aload_n 0, 1) := by decide +kernel
theorem dX4_posts_1 : decode cX4_posts 1 = .ok (.getfield 10, 3) := by decide +kernel
theorem dX4_posts_4 : decode cX4_posts 4 = .ok (.invokevirtual 63, 3) := by decide +kernel
theorem dX4_posts_7 : decode cX4_posts 7 = .ok (.istore_n 1, 1) := by decide +kernel
theorem dX4_posts_8 : decode cX4_posts 8 = .ok (.iload_n 1, 1) := by decide +kernel
theorem dX4_posts_9 : decode cX4_posts 9 = .ok (.iconst (-1), 1) := by decide +kernel
theorem dX4_posts_10 : decode cX4_posts 10 = .ok (.if_icmp .eq 8, 3) := by decide +kernel
theorem dX4_posts_13 : decode cX4_posts 13 = .ok (.bipush (-10), 2) := by decide +kernel
theorem dX4_posts_15 : decode cX4_posts 15 = .ok (.iload_n 1, 1) := by decide +kernel
theorem dX4_posts_16 : decode cX4_posts 16 = .ok (.isub, 1) := by decide +kernel
theorem dX4_posts_17 : decode cX4_posts 17 = .ok (.ireturn, 1) := by decide +kernel
theorem dX4_posts_18 : decode cX4_posts 18 = .ok (.aload_n 0, 1) := by decide +kernel
theorem dX4_posts_19 : decode cX4_posts 19 = .ok (.getfield 23, 3) := by decide +kernel
theorem dX4_posts_22 : decode cX4_posts 22 = .ok (.aload_n 0, 1) := by decide +kernel
theorem dX4_posts_23 : decode cX4_posts 23 = .ok (.getfield 19, 3) := by decide +kernel
theorem dX4_posts_26 : decode cX4_posts 26 = .ok (.invokevirtual 67, 3) := by decide +kernel
theorem dX4_posts_29 : decode cX4_posts 29 = .ok (.iconst 0, 1) := by decide +kernel
theorem dX4_posts_30 : decode cX4_posts 30 = .ok (.istore_n 2, 1) := by decide +kernel
theorem dX4_posts_31 : decode cX4_posts 31 = .ok (.iload_n 2, 1) := by decide +kernel
theorem dX4_posts_32 : decode cX4_posts 32 = .ok (.aload_n 0, 1) := by decide +kernel
theorem dX4_posts_33 : decode cX4_posts 33 = .ok (.getfield 10, 3) := by decide +kernel
theorem dX4_posts_36 : decode cX4_posts 36 = .ok (.getfield 71, 3) := by decide +kernel
theorem dX4_posts_39 : decode cX4_posts 39 = .ok (.if_icmp .ge 27, 3) := by decide +kernel
theorem dX4_posts_42 : decode cX4_posts 42 = .ok (.aload_n 0, 1) := by decide +kernel
theorem dX4_posts_43 : decode cX4_posts 43 = .ok (.getfield 23, 3) := by decide +kernel
theorem dX4_posts_46 : decode cX4_posts 46 = .ok (.aload_n 0, 1) := by decide +kernel
theorem dX4_posts_47 : decode cX4_posts 47 = .ok (.getfield 10, 3) := by decide +kernel
theorem dX4_posts_50 : decode cX4_posts 50 = .ok (.iload_n 2, 1) := by decide +kernel
theorem dX4_posts_51 : decode cX4_posts 51 = .ok (.invokevirtual 74, 3) := by decide +kernel
theorem dX4_posts_54 : decode cX4_posts 54 = .ok (.ifCond .ne 6, 3) := by decide +kernel
theorem dX4_posts_57 : decode cX4_posts 57 = .ok (.bipush (-3), 2) := by decide +kernel
theorem dX4_posts_59 : decode cX4_posts 59 = .ok (.ireturn, 1) := by decide +kernel
theorem dX4_posts_60 : decode cX4_posts 60 = .ok (.iinc 2 1, 3) := by decide +kernel
theorem dX4_posts_63 : decode cX4_posts 63 = .ok (.goto (-32), 3) := by decide +kernel
theorem dX4_posts_66 : decode cX4_posts 66 = .ok (.aload_n 0, 1) := by decide +kernel
theorem dX4_posts_67 : decode cX4_posts 67 = .ok (.getfield 29, 3) := by decide +kernel
theorem dX4_posts_70 : decode cX4_posts 70 = .ok (.aload_n 0, 1) := by decide +kernel
theorem dX4_posts_71 : decode cX4_posts 71 = .ok (.getfield 19, 3) := by decide +kernel
theorem dX4_posts_74 : decode cX4_posts 74 = .ok (.invokevirtual 78, 3) := by decide +kernel
theorem dX4_posts_77 : decode cX4_posts 77 = .ok (.aload_n 0, 1) := by decide +kernel
theorem dX4_posts_78 : decode cX4_posts 78 = .ok (.getfield 19, 3) := by decide +kernel
theorem dX4_posts_81 : decode cX4_posts 81 = .ok (.aload_n 0, 1) := by decide +kernel
theorem dX4_posts_82 : decode cX4_posts 82 = .ok (.getfield 23, 3) := by decide +kernel
theorem dX4_posts_85 : decode cX4_posts 85 = .ok (.invokevirtual 67, 3) := by decide +kernel
theorem dX4_posts_88 : decode cX4_posts 88 = .ok (.aload_n 0, 1) := by decide +kernel
theorem dX4_posts_89 : decode cX4_posts 89 = .ok (.getfield 10, 3) := by decide +kernel
theorem dX4_posts_92 : decode cX4_posts 92 = .ok (.invokevirtual 60, 3) := by decide +kernel
theorem dX4_posts_95 : decode cX4_posts 95 = .ok (.aload_n 0, 1) := by decide +kernel
theorem dX4_posts_96 : decode cX4_posts 96 = .ok (.getfield 10, 3) := by decide +kernel
theorem dX4_posts_99 : decode cX4_posts 99 = .ok (.getfield 71, 3) := by decide +kernel
theorem dX4_posts_102 : decode cX4_posts 102 = .ok (.ireturn, 1) := by decide +kernel
theorem dX4_ticks_0 : decode cX4_ticks 0 = .ok (.iload_n 1, 1) := by decide +kernel
theorem dX4_ticks_1 : decode cX4_ticks 1 = .ok (.iconst 1, 1) := by decide +kernel
theorem dX4_ticks_2 : decode cX4_ticks 2 = .ok (.bipush 40, 2) := by decide +kernel
theorem dX4_ticks_4 : decode cX4_ticks 4 = .ok (.invokestatic 48, 3) := by decide +kernel
theorem dX4_ticks_7 : decode cX4_ticks 7 = .ok (.ifCond .ne 5, 3) := by decide +kernel
theorem dX4_ticks_10 : decode cX4_ticks 10 = .ok (.iconst (-1), 1) := by decide +kernel
theorem dX4_ticks_11 : decode cX4_ticks 11 = .ok (.ireturn, 1) := by decide +kernel
theorem dX4_ticks_12 : decode cX4_ticks 12 = .ok (.aload_n 0, 1) := by decide +kernel
theorem dX4_ticks_13 : decode cX4_ticks 13 = .ok (.getfield 29, 3) := by decide +kernel
theorem dX4_ticks_16 : decode cX4_ticks 16 = .ok (.aload_n 0, 1) := by decide +kernel
theorem dX4_ticks_17 : decode cX4_ticks 17 = .ok (.getfield 19, 3) := by decide +kernel
theorem dX4_ticks_20 : decode cX4_ticks 20 = .ok (.invokevirtual 78, 3) := by decide +kernel
theorem dX4_ticks_23 : decode cX4_ticks 23 = .ok (.iconst 0, 1) := by decide +kernel
theorem dX4_ticks_24 : decode cX4_ticks 24 = .ok (.istore_n 2, 1) := by decide +kernel
theorem dX4_ticks_25 : decode cX4_ticks 25 = .ok (.iconst 0, 1) := by decide +kernel
theorem dX4_ticks_26 : decode cX4_ticks 26 = .ok (.istore_n 3, 1) := by decide +kernel
theorem dX4_ticks_27 : decode cX4_ticks 27 = .ok (.iload_n 3, 1) := by decide +kernel
theorem dX4_ticks_28 : decode cX4_ticks 28 = .ok (.iload_n 1, 1) := by decide +kernel
theorem dX4_ticks_29 : decode cX4_ticks 29 = .ok (.if_icmp .ge 25, 3) := by decide +kernel
theorem dX4_ticks_32 : decode cX4_ticks 32 = .ok (.aload_n 0, 1) := by decide +kernel
theorem dX4_ticks_33 : decode cX4_ticks 33 = .ok (.getfield 19, 3) := by decide +kernel
theorem dX4_ticks_36 : decode cX4_ticks 36 = .ok (.iconst 1, 1) := by decide +kernel
theorem dX4_ticks_37 : decode cX4_ticks 37 = .ok (.invokevirtual 81, 3) := by decide +kernel
theorem dX4_ticks_40 : decode cX4_ticks 40 = .ok (.bipush (-9), 2) := by decide +kernel
theorem dX4_ticks_42 : decode cX4_ticks 42 = .ok (.if_icmp .eq 6, 3) := by decide +kernel
theorem dX4_ticks_45 : decode cX4_ticks 45 = .ok (.iinc 2 1, 3) := by decide +kernel
theorem dX4_ticks_48 : decode cX4_ticks 48 = .ok (.iinc 3 1, 3) := by decide +kernel
theorem dX4_ticks_51 : decode cX4_ticks 51 = .ok (.goto (-24), 3) := by decide +kernel
theorem dX4_ticks_54 : decode cX4_ticks 54 = .ok (.iload_n 2, 1) := by decide +kernel
theorem dX4_ticks_55 : decode cX4_ticks 55 = .ok (.ireturn, 1) := by decide +kernel
theorem dX4_cancels_0 : decode cX4_cancels 0 = .ok (.iload_n 1, 1) := by decide +kernel
theorem dX4_cancels_1 : decode cX4_cancels 1 = .ok (.invokestatic 85, 3) := by decide +kernel
theorem dX4_cancels_4 : decode cX4_cancels 4 = .ok (.ifCond .ne 5, 3) := by decide +kernel
theorem dX4_cancels_7 : decode cX4_cancels 7 = .ok (.iconst (-1), 1) := by decide +kernel
theorem dX4_cancels_8 : decode cX4_cancels 8 = .ok (.ireturn, 1) := by decide +kernel
theorem dX4_cancels_9 : decode cX4_cancels 9 = .ok (.aload_n 0, 1) := by decide +kernel
theorem dX4_cancels_10 : decode cX4_cancels 10 = .ok (.getfield 19, 3) := by decide +kernel
theorem dX4_cancels_13 : decode cX4_cancels 13 = .ok (.iload_n 1, 1) := by decide +kernel
theorem dX4_cancels_14 : decode cX4_cancels 14 = .ok (.invokevirtual 88, 3) := by decide +kernel
theorem dX4_cancels_17 : decode cX4_cancels 17 = .ok (.bipush (-9), 2) := by decide +kernel
theorem dX4_cancels_19 : decode cX4_cancels 19 = .ok (.if_icmp .ne 6, 3) := by decide +kernel
theorem dX4_cancels_22 : decode cX4_cancels 22 = .ok (.bipush (-2), 2) := by decide +kernel
theorem dX4_cancels_24 : decode cX4_cancels 24 = .ok (.ireturn, 1) := by decide +kernel
theorem dX4_cancels_25 : decode cX4_cancels 25 = .ok (.aload_n 0, 1) := by decide +kernel
theorem dX4_cancels_26 : decode cX4_cancels 26 = .ok (.getfield 29, 3) := by decide +kernel
theorem dX4_cancels_29 : decode cX4_cancels 29 = .ok (.aload_n 0, 1) := by decide +kernel
theorem dX4_cancels_30 : decode cX4_cancels 30 = .ok (.getfield 19, 3) := by decide +kernel
theorem dX4_cancels_33 : decode cX4_cancels 33 = .ok (.invokevirtual 78, 3) := by decide +kernel
theorem dX4_cancels_36 : decode cX4_cancels 36 = .ok (.aload_n 0, 1) := by decide +kernel
theorem dX4_cancels_37 : decode cX4_cancels 37 = .ok (.getfield 19, 3) := by decide +kernel
theorem dX4_cancels_40 : decode cX4_cancels 40 = .ok (.iload_n 1, 1) := by decide +kernel
theorem dX4_cancels_41 : decode cX4_cancels 41 = .ok (.invokevirtual 92, 3) := by decide +kernel
theorem dX4_cancels_44 : decode cX4_cancels 44 = .ok (.ireturn, 1) := by decide +kernel
theorem dX4_switches_0 : decode cX4_switches 0 = .ok (.iload_n 1, 1) := by decide +kernel
theorem dX4_switches_1 : decode cX4_switches 1 = .ok (.invokestatic 85, 3) := by decide +kernel
theorem dX4_switches_4 : decode cX4_switches 4 = .ok (.ifCond .ne 5, 3) := by decide +kernel
theorem dX4_switches_7 : decode cX4_switches 7 = .ok (.iconst (-1), 1) := by decide +kernel
theorem dX4_switches_8 : decode cX4_switches 8 = .ok (.ireturn, 1) := by decide +kernel
theorem dX4_switches_9 : decode cX4_switches 9 = .ok (.aload_n 0, 1) := by decide +kernel
theorem dX4_switches_10 : decode cX4_switches 10 = .ok (.getfield 29, 3) := by decide +kernel
theorem dX4_switches_13 : decode cX4_switches 13 = .ok (.aload_n 0, 1) := by decide +kernel
theorem dX4_switches_14 : decode cX4_switches 14 = .ok (.getfield 19, 3) := by decide +kernel
theorem dX4_switches_17 : decode cX4_switches 17 = .ok (.invokevirtual 78, 3) := by decide +kernel
theorem dX4_switches_20 : decode cX4_switches 20 = .ok (.iconst 1, 1) := by decide +kernel
theorem dX4_switches_21 : decode cX4_switches 21 = .ok (.aload_n 0, 1) := by decide +kernel
theorem dX4_switches_22 : decode cX4_switches 22 = .ok (.getfield 19, 3) := by decide +kernel
theorem dX4_switches_25 : decode cX4_switches 25 = .ok (.iload_n 1, 1) := by decide +kernel
theorem dX4_switches_26 : decode cX4_switches 26 = .ok (.iconst 0, 1) := by decide +kernel
theorem dX4_switches_27 : decode cX4_switches 27 = .ok (.invokevirtual 95, 3) := by decide +kernel
theorem dX4_switches_30 : decode cX4_switches 30 = .ok (.isub, 1) := by decide +kernel
theorem dX4_switches_31 : decode cX4_switches 31 = .ok (.istore_n 2, 1) := by decide +kernel
theorem dX4_switches_32 : decode cX4_switches 32 = .ok (.aload_n 0, 1) := by decide +kernel
theorem dX4_switches_33 : decode cX4_switches 33 = .ok (.getfield 19, 3) := by decide +kernel
theorem dX4_switches_36 : decode cX4_switches 36 = .ok (.iload_n 1, 1) := by decide +kernel
theorem dX4_switches_37 : decode cX4_switches 37 = .ok (.iconst 0, 1) := by decide +kernel
theorem dX4_switches_38 : decode cX4_switches 38 = .ok (.iload_n 2, 1) := by decide +kernel
theorem dX4_switches_39 : decode cX4_switches 39 = .ok (.invokevirtual 99, 3) := by decide +kernel
theorem dX4_switches_42 : decode cX4_switches 42 = .ok (.iload_n 2, 1) := by decide +kernel
theorem dX4_switches_43 : decode cX4_switches 43 = .ok (.ireturn, 1) := by decide +kernel
theorem dX4_tunes_0 : decode cX4_tunes 0 = .ok (.iload_n 1, 1) := by decide +kernel
theorem dX4_tunes_1 : decode cX4_tunes 1 = .ok (.invokestatic 85, 3) := by decide +kernel
theorem dX4_tunes_4 : decode cX4_tunes 4 = .ok (.ifCond .eq 22, 3) := by decide +kernel
theorem dX4_tunes_7 : decode cX4_tunes 7 = .ok (.iload_n 2, 1) := by decide +kernel
theorem dX4_tunes_8 : decode cX4_tunes 8 = .ok (.iconst 0, 1) := by decide +kernel
theorem dX4_tunes_9 : decode cX4_tunes 9 = .ok (.iconst 3, 1) := by decide +kernel
theorem dX4_tunes_10 : decode cX4_tunes 10 = .ok (.invokestatic 48, 3) := by decide +kernel
theorem dX4_tunes_13 : decode cX4_tunes 13 = .ok (.ifCond .eq 13, 3) := by decide +kernel
theorem dX4_tunes_16 : decode cX4_tunes 16 = .ok (.iload_n 3, 1) := by decide +kernel
theorem dX4_tunes_17 : decode cX4_tunes 17 = .ok (.iconst 1, 1) := by decide +kernel
theorem dX4_tunes_18 : decode cX4_tunes 18 = .ok (.bipush 8, 2) := by decide +kernel
theorem dX4_tunes_20 : decode cX4_tunes 20 = .ok (.invokestatic 48, 3) := by decide +kernel
theorem dX4_tunes_23 : decode cX4_tunes 23 = .ok (.ifCond .ne 5, 3) := by decide +kernel
theorem dX4_tunes_26 : decode cX4_tunes 26 = .ok (.iconst (-1), 1) := by decide +kernel
theorem dX4_tunes_27 : decode cX4_tunes 27 = .ok (.ireturn, 1) := by decide +kernel
theorem dX4_tunes_28 : decode cX4_tunes 28 = .ok (.aload_n 0, 1) := by decide +kernel
theorem dX4_tunes_29 : decode cX4_tunes 29 = .ok (.getfield 19, 3) := by decide +kernel
theorem dX4_tunes_32 : decode cX4_tunes 32 = .ok (.iload_n 1, 1) := by decide +kernel
theorem dX4_tunes_33 : decode cX4_tunes 33 = .ok (.iconst 1, 1) := by decide +kernel
theorem dX4_tunes_34 : decode cX4_tunes 34 = .ok (.invokevirtual 95, 3) := by decide +kernel
theorem dX4_tunes_37 : decode cX4_tunes 37 = .ok (.iload_n 2, 1) := by decide +kernel
theorem dX4_tunes_38 : decode cX4_tunes 38 = .ok (.if_icmp .ne 19, 3) := by decide +kernel
theorem dX4_tunes_41 : decode cX4_tunes 41 = .ok (.aload_n 0, 1) := by decide +kernel
theorem dX4_tunes_42 : decode cX4_tunes 42 = .ok (.getfield 19, 3) := by decide +kernel
theorem dX4_tunes_45 : decode cX4_tunes 45 = .ok (.iload_n 1, 1) := by decide +kernel
theorem dX4_tunes_46 : decode cX4_tunes 46 = .ok (.iconst 2, 1) := by decide +kernel
theorem dX4_tunes_47 : decode cX4_tunes 47 = .ok (.invokevirtual 95, 3) := by decide +kernel
theorem dX4_tunes_50 : decode cX4_tunes 50 = .ok (.iload_n 3, 1) := by decide +kernel
theorem dX4_tunes_51 : decode cX4_tunes 51 = .ok (.if_icmp .ne 6, 3) := by decide +kernel
theorem dX4_tunes_54 : decode cX4_tunes 54 = .ok (.bipush (-2), 2) := by decide +kernel
theorem dX4_tunes_56 : decode cX4_tunes 56 = .ok (.ireturn, 1) := by decide +kernel
theorem dX4_tunes_57 : decode cX4_tunes 57 = .ok (.aload_n 0, 1) := by decide +kernel
theorem dX4_tunes_58 : decode cX4_tunes 58 = .ok (.getfield 29, 3) := by decide +kernel
theorem dX4_tunes_61 : decode cX4_tunes 61 = .ok (.aload_n 0, 1) := by decide +kernel
theorem dX4_tunes_62 : decode cX4_tunes 62 = .ok (.getfield 19, 3) := by decide +kernel
theorem dX4_tunes_65 : decode cX4_tunes 65 = .ok (.invokevirtual 78, 3) := by decide +kernel
theorem dX4_tunes_68 : decode cX4_tunes 68 = .ok (.aload_n 0, 1) := by decide +kernel
theorem dX4_tunes_69 : decode cX4_tunes 69 = .ok (.getfield 19, 3) := by decide +kernel
theorem dX4_tunes_72 : decode cX4_tunes 72 = .ok (.iload_n 1, 1) := by decide +kernel
theorem dX4_tunes_73 : decode cX4_tunes 73 = .ok (.iconst 1, 1) := by decide +kernel
theorem dX4_tunes_74 : decode cX4_tunes 74 = .ok (.iload_n 2, 1) := by decide +kernel
theorem dX4_tunes_75 : decode cX4_tunes 75 = .ok (.invokevirtual 99, 3) := by decide +kernel
theorem dX4_tunes_78 : decode cX4_tunes 78 = .ok (.aload_n 0, 1) := by decide +kernel
theorem dX4_tunes_79 : decode cX4_tunes 79 = .ok (.getfield 19, 3) := by decide +kernel
theorem dX4_tunes_82 : decode cX4_tunes 82 = .ok (.iload_n 1, 1) := by decide +kernel
theorem dX4_tunes_83 : decode cX4_tunes 83 = .ok (.iconst 2, 1) := by decide +kernel
theorem dX4_tunes_84 : decode cX4_tunes 84 = .ok (.iload_n 3, 1) := by decide +kernel
theorem dX4_tunes_85 : decode cX4_tunes 85 = .ok (.invokevirtual 99, 3) := by decide +kernel
theorem dX4_tunes_88 : decode cX4_tunes 88 = .ok (.iconst 1, 1) := by decide +kernel
theorem dX4_tunes_89 : decode cX4_tunes 89 = .ok (.ireturn, 1) := by decide +kernel
theorem dX4_undo_0 : decode cX4_undo 0 = .ok (.aload_n 0, 1) := by decide +kernel
theorem dX4_undo_1 : decode cX4_undo 1 = .ok (.getfield 29, 3) := by decide +kernel
theorem dX4_undo_4 : decode cX4_undo 4 = .ok (.aload_n 0, 1) := by decide +kernel
theorem dX4_undo_5 : decode cX4_undo 5 = .ok (.getfield 19, 3) := by decide +kernel
theorem dX4_undo_8 : decode cX4_undo 8 = .ok (.invokevirtual 103, 3) := by decide +kernel
theorem dX4_undo_11 : decode cX4_undo 11 = .ok (.ifCond .eq 13, 3) := by decide +kernel
theorem dX4_undo_14 : decode cX4_undo 14 = .ok (.aload_n 0, 1) := by decide +kernel
theorem dX4_undo_15 : decode cX4_undo 15 = .ok (.getfield 29, 3) := by decide +kernel
theorem dX4_undo_18 : decode cX4_undo 18 = .ok (.getfield 107, 3) := by decide +kernel
theorem dX4_undo_21 : decode cX4_undo 21 = .ok (.goto 5, 3) := by decide +kernel
theorem dX4_undo_24 : decode cX4_undo 24 = .ok (.bipush (-2), 2) := by decide +kernel
theorem dX4_undo_26 : decode cX4_undo 26 = .ok (.ireturn, 1) := by decide +kernel
theorem dX4_at_0 : decode cX4_at 0 = .ok (.iload_n 1, 1) := by decide +kernel
theorem dX4_at_1 : decode cX4_at 1 = .ok (.iconst 0, 1) := by decide +kernel
theorem dX4_at_2 : decode cX4_at 2 = .ok (.bipush 63, 2) := by decide +kernel
theorem dX4_at_4 : decode cX4_at 4 = .ok (.invokestatic 48, 3) := by decide +kernel
theorem dX4_at_7 : decode cX4_at 7 = .ok (.ifCond .eq 15, 3) := by decide +kernel
theorem dX4_at_10 : decode cX4_at 10 = .ok (.aload_n 0, 1) := by decide +kernel
theorem dX4_at_11 : decode cX4_at 11 = .ok (.getfield 19, 3) := by decide +kernel
theorem dX4_at_14 : decode cX4_at 14 = .ok (.getfield 110, 3) := by decide +kernel
theorem dX4_at_17 : decode cX4_at 17 = .ok (.iload_n 1, 1) := by decide +kernel
theorem dX4_at_18 : decode cX4_at 18 = .ok (.iaload, 1) := by decide +kernel
theorem dX4_at_19 : decode cX4_at 19 = .ok (.goto 4, 3) := by decide +kernel
theorem dX4_at_22 : decode cX4_at 22 = .ok (.iconst (-1), 1) := by decide +kernel
theorem dX4_at_23 : decode cX4_at 23 = .ok (.ireturn, 1) := by decide +kernel
theorem dX4_channel_0 : decode cX4_channel 0 = .ok (.iload_n 1, 1) := by decide +kernel
theorem dX4_channel_1 : decode cX4_channel 1 = .ok (.invokestatic 85, 3) := by decide +kernel
theorem dX4_channel_4 : decode cX4_channel 4 = .ok (.ifCond .ne 5, 3) := by decide +kernel
theorem dX4_channel_7 : decode cX4_channel 7 = .ok (.iconst (-1), 1) := by decide +kernel
theorem dX4_channel_8 : decode cX4_channel 8 = .ok (.ireturn, 1) := by decide +kernel
theorem dX4_channel_9 : decode cX4_channel 9 = .ok (.iload_n 2, 1) := by decide +kernel
theorem dX4_channel_10 : decode cX4_channel 10 = .ok (.tableswitch 144 0 8 #[50, 60, 70, 80, 90, 100, 106, 116, 127], 50) := by decide +kernel
theorem dX4_channel_60 : decode cX4_channel 60 = .ok (.aload_n 0, 1) := by decide +kernel
theorem dX4_channel_61 : decode cX4_channel 61 = .ok (.getfield 19, 3) := by decide +kernel
theorem dX4_channel_64 : decode cX4_channel 64 = .ok (.iload_n 1, 1) := by decide +kernel
theorem dX4_channel_65 : decode cX4_channel 65 = .ok (.iconst 0, 1) := by decide +kernel
theorem dX4_channel_66 : decode cX4_channel 66 = .ok (.invokevirtual 95, 3) := by decide +kernel
theorem dX4_channel_69 : decode cX4_channel 69 = .ok (.ireturn, 1) := by decide +kernel
theorem dX4_channel_70 : decode cX4_channel 70 = .ok (.aload_n 0, 1) := by decide +kernel
theorem dX4_channel_71 : decode cX4_channel 71 = .ok (.getfield 19, 3) := by decide +kernel
theorem dX4_channel_74 : decode cX4_channel 74 = .ok (.iload_n 1, 1) := by decide +kernel
theorem dX4_channel_75 : decode cX4_channel 75 = .ok (.iconst 1, 1) := by decide +kernel
theorem dX4_channel_76 : decode cX4_channel 76 = .ok (.invokevirtual 95, 3) := by decide +kernel
theorem dX4_channel_79 : decode cX4_channel 79 = .ok (.ireturn, 1) := by decide +kernel
theorem dX4_channel_80 : decode cX4_channel 80 = .ok (.aload_n 0, 1) := by decide +kernel
theorem dX4_channel_81 : decode cX4_channel 81 = .ok (.getfield 19, 3) := by decide +kernel
theorem dX4_channel_84 : decode cX4_channel 84 = .ok (.iload_n 1, 1) := by decide +kernel
theorem dX4_channel_85 : decode cX4_channel 85 = .ok (.iconst 2, 1) := by decide +kernel
theorem dX4_channel_86 : decode cX4_channel 86 = .ok (.invokevirtual 95, 3) := by decide +kernel
theorem dX4_channel_89 : decode cX4_channel 89 = .ok (.ireturn, 1) := by decide +kernel
theorem dX4_channel_90 : decode cX4_channel 90 = .ok (.aload_n 0, 1) := by decide +kernel
theorem dX4_channel_91 : decode cX4_channel 91 = .ok (.getfield 19, 3) := by decide +kernel
theorem dX4_channel_94 : decode cX4_channel 94 = .ok (.iload_n 1, 1) := by decide +kernel
theorem dX4_channel_95 : decode cX4_channel 95 = .ok (.iconst 3, 1) := by decide +kernel
theorem dX4_channel_96 : decode cX4_channel 96 = .ok (.invokevirtual 95, 3) := by decide +kernel
theorem dX4_channel_99 : decode cX4_channel 99 = .ok (.ireturn, 1) := by decide +kernel
theorem dX4_channel_100 : decode cX4_channel 100 = .ok (.aload_n 0, 1) := by decide +kernel
theorem dX4_channel_101 : decode cX4_channel 101 = .ok (.getfield 19, 3) := by decide +kernel
theorem dX4_channel_104 : decode cX4_channel 104 = .ok (.iload_n 1, 1) := by decide +kernel
theorem dX4_channel_105 : decode cX4_channel 105 = .ok (.iconst 4, 1) := by decide +kernel
theorem dX4_channel_106 : decode cX4_channel 106 = .ok (.invokevirtual 95, 3) := by decide +kernel
theorem dX4_channel_109 : decode cX4_channel 109 = .ok (.ireturn, 1) := by decide +kernel
theorem dX4_channel_110 : decode cX4_channel 110 = .ok (.aload_n 0, 1) := by decide +kernel
theorem dX4_channel_111 : decode cX4_channel 111 = .ok (.iload_n 1, 1) := by decide +kernel
theorem dX4_channel_112 : decode cX4_channel 112 = .ok (.invokevirtual 114, 3) := by decide +kernel
theorem dX4_channel_115 : decode cX4_channel 115 = .ok (.ireturn, 1) := by decide +kernel
theorem dX4_channel_116 : decode cX4_channel 116 = .ok (.aload_n 0, 1) := by decide +kernel
theorem dX4_channel_117 : decode cX4_channel 117 = .ok (.getfield 19, 3) := by decide +kernel
theorem dX4_channel_120 : decode cX4_channel 120 = .ok (.iload_n 1, 1) := by decide +kernel
theorem dX4_channel_121 : decode cX4_channel 121 = .ok (.iconst 5, 1) := by decide +kernel
theorem dX4_channel_122 : decode cX4_channel 122 = .ok (.invokevirtual 95, 3) := by decide +kernel
theorem dX4_channel_125 : decode cX4_channel 125 = .ok (.ireturn, 1) := by decide +kernel
theorem dX4_channel_126 : decode cX4_channel 126 = .ok (.aload_n 0, 1) := by decide +kernel
theorem dX4_channel_127 : decode cX4_channel 127 = .ok (.getfield 19, 3) := by decide +kernel
theorem dX4_channel_130 : decode cX4_channel 130 = .ok (.iload_n 1, 1) := by decide +kernel
theorem dX4_channel_131 : decode cX4_channel 131 = .ok (.bipush 6, 2) := by decide +kernel
theorem dX4_channel_133 : decode cX4_channel 133 = .ok (.invokevirtual 95, 3) := by decide +kernel
theorem dX4_channel_136 : decode cX4_channel 136 = .ok (.ireturn, 1) := by decide +kernel
theorem dX4_channel_137 : decode cX4_channel 137 = .ok (.aload_n 0, 1) := by decide +kernel
theorem dX4_channel_138 : decode cX4_channel 138 = .ok (.getfield 19, 3) := by decide +kernel
theorem dX4_channel_141 : decode cX4_channel 141 = .ok (.iload_n 1, 1) := by decide +kernel
theorem dX4_channel_142 : decode cX4_channel 142 = .ok (.invokevirtual 117, 3) := by decide +kernel
theorem dX4_channel_145 : decode cX4_channel 145 = .ok (.ifCond .eq 7, 3) := by decide +kernel
theorem dX4_channel_148 : decode cX4_channel 148 = .ok (.iconst 1, 1) := by decide +kernel
theorem dX4_channel_149 : decode cX4_channel 149 = .ok (.goto 4, 3) := by decide +kernel
theorem dX4_channel_152 : decode cX4_channel 152 = .ok (.iconst 0, 1) := by decide +kernel
theorem dX4_channel_153 : decode cX4_channel 153 = .ok (.ireturn, 1) := by decide +kernel
theorem dX4_channel_154 : decode cX4_channel 154 = .ok (.iconst (-1), 1) := by decide +kernel
theorem dX4_channel_155 : decode cX4_channel 155 = .ok (.ireturn, 1) := by decide +kernel
theorem dX4_slot_0 : decode cX4_slot 0 = .ok (.iload_n 1, 1) := by decide +kernel
theorem dX4_slot_1 : decode cX4_slot 1 = .ok (.iload_n 2, 1) := by decide +kernel
theorem dX4_slot_2 : decode cX4_slot 2 = .ok (.invokestatic 120, 3) := by decide +kernel
theorem dX4_slot_5 : decode cX4_slot 5 = .ok (.ifCond .eq 12, 3) := by decide +kernel
theorem dX4_slot_8 : decode cX4_slot 8 = .ok (.iload_n 3, 1) := by decide +kernel
theorem dX4_slot_9 : decode cX4_slot 9 = .ok (.iconst 0, 1) := by decide +kernel
theorem dX4_slot_10 : decode cX4_slot 10 = .ok (.iconst 5, 1) := by decide +kernel
theorem dX4_slot_11 : decode cX4_slot 11 = .ok (.invokestatic 48, 3) := by decide +kernel
theorem dX4_slot_14 : decode cX4_slot 14 = .ok (.ifCond .ne 5, 3) := by decide +kernel
theorem dX4_slot_17 : decode cX4_slot 17 = .ok (.iconst (-1), 1) := by decide +kernel
theorem dX4_slot_18 : decode cX4_slot 18 = .ok (.ireturn, 1) := by decide +kernel
theorem dX4_slot_19 : decode cX4_slot 19 = .ok (.iload_n 1, 1) := by decide +kernel
theorem dX4_slot_20 : decode cX4_slot 20 = .ok (.iload_n 2, 1) := by decide +kernel
theorem dX4_slot_21 : decode cX4_slot 21 = .ok (.invokestatic 124, 3) := by decide +kernel
theorem dX4_slot_24 : decode cX4_slot 24 = .ok (.istore 4, 2) := by decide +kernel
theorem dX4_slot_26 : decode cX4_slot 26 = .ok (.aload_n 0, 1) := by decide +kernel
theorem dX4_slot_27 : decode cX4_slot 27 = .ok (.getfield 19, 3) := by decide +kernel
theorem dX4_slot_30 : decode cX4_slot 30 = .ok (.iload 4, 2) := by decide +kernel
theorem dX4_slot_32 : decode cX4_slot 32 = .ok (.invokevirtual 127, 3) := by decide +kernel
theorem dX4_slot_35 : decode cX4_slot 35 = .ok (.ifCond .ne 6, 3) := by decide +kernel
theorem dX4_slot_38 : decode cX4_slot 38 = .ok (.bipush (-9), 2) := by decide +kernel
theorem dX4_slot_40 : decode cX4_slot 40 = .ok (.ireturn, 1) := by decide +kernel
theorem dX4_slot_41 : decode cX4_slot 41 = .ok (.iload_n 3, 1) := by decide +kernel
theorem dX4_slot_42 : decode cX4_slot 42 = .ok (.tableswitch 92 0 4 #[34, 46, 58, 70, 80], 34) := by decide +kernel
theorem dX4_slot_76 : decode cX4_slot 76 = .ok (.aload_n 0, 1) := by decide +kernel
theorem dX4_slot_77 : decode cX4_slot 77 = .ok (.getfield 19, 3) := by decide +kernel
theorem dX4_slot_80 : decode cX4_slot 80 = .ok (.iload 4, 2) := by decide +kernel
theorem dX4_slot_82 : decode cX4_slot 82 = .ok (.bipush 9, 2) := by decide +kernel
theorem dX4_slot_84 : decode cX4_slot 84 = .ok (.invokevirtual 130, 3) := by decide +kernel
theorem dX4_slot_87 : decode cX4_slot 87 = .ok (.ireturn, 1) := by decide +kernel
theorem dX4_slot_88 : decode cX4_slot 88 = .ok (.aload_n 0, 1) := by decide +kernel
theorem dX4_slot_89 : decode cX4_slot 89 = .ok (.getfield 19, 3) := by decide +kernel
theorem dX4_slot_92 : decode cX4_slot 92 = .ok (.iload 4, 2) := by decide +kernel
theorem dX4_slot_94 : decode cX4_slot 94 = .ok (.bipush 10, 2) := by decide +kernel
theorem dX4_slot_96 : decode cX4_slot 96 = .ok (.invokevirtual 130, 3) := by decide +kernel
theorem dX4_slot_99 : decode cX4_slot 99 = .ok (.ireturn, 1) := by decide +kernel
theorem dX4_slot_100 : decode cX4_slot 100 = .ok (.aload_n 0, 1) := by decide +kernel
theorem dX4_slot_101 : decode cX4_slot 101 = .ok (.getfield 19, 3) := by decide +kernel
theorem dX4_slot_104 : decode cX4_slot 104 = .ok (.iload 4, 2) := by decide +kernel
theorem dX4_slot_106 : decode cX4_slot 106 = .ok (.bipush 11, 2) := by decide +kernel
theorem dX4_slot_108 : decode cX4_slot 108 = .ok (.invokevirtual 130, 3) := by decide +kernel
theorem dX4_slot_111 : decode cX4_slot 111 = .ok (.ireturn, 1) := by decide +kernel
theorem dX4_slot_112 : decode cX4_slot 112 = .ok (.aload_n 0, 1) := by decide +kernel
theorem dX4_slot_113 : decode cX4_slot 113 = .ok (.getfield 19, 3) := by decide +kernel
theorem dX4_slot_116 : decode cX4_slot 116 = .ok (.iload 4, 2) := by decide +kernel
theorem dX4_slot_118 : decode cX4_slot 118 = .ok (.invokevirtual 133, 3) := by decide +kernel
theorem dX4_slot_121 : decode cX4_slot 121 = .ok (.ireturn, 1) := by decide +kernel
theorem dX4_slot_122 : decode cX4_slot 122 = .ok (.aload_n 0, 1) := by decide +kernel
theorem dX4_slot_123 : decode cX4_slot 123 = .ok (.getfield 19, 3) := by decide +kernel
theorem dX4_slot_126 : decode cX4_slot 126 = .ok (.iload 4, 2) := by decide +kernel
theorem dX4_slot_128 : decode cX4_slot 128 = .ok (.bipush 8, 2) := by decide +kernel
theorem dX4_slot_130 : decode cX4_slot 130 = .ok (.invokevirtual 130, 3) := by decide +kernel
theorem dX4_slot_133 : decode cX4_slot 133 = .ok (.ireturn, 1) := by decide +kernel
theorem dX4_slot_134 : decode cX4_slot 134 = .ok (.aload_n 0, 1) := by decide +kernel
theorem dX4_slot_135 : decode cX4_slot 135 = .ok (.getfield 19, 3) := by decide +kernel
theorem dX4_slot_138 : decode cX4_slot 138 = .ok (.iload 4, 2) := by decide +kernel
theorem dX4_slot_140 : decode cX4_slot 140 = .ok (.bipush 12, 2) := by decide +kernel
theorem dX4_slot_142 : decode cX4_slot 142 = .ok (.invokevirtual 130, 3) := by decide +kernel
theorem dX4_slot_145 : decode cX4_slot 145 = .ok (.ireturn, 1) := by decide +kernel
theorem dX4_unit_0 : decode cX4_unit 0 = .ok (.iload_n 1, 1) := by decide +kernel
theorem dX4_unit_1 : decode cX4_unit 1 = .ok (.iload_n 2, 1) := by decide +kernel
theorem dX4_unit_2 : decode cX4_unit 2 = .ok (.invokestatic 120, 3) := by decide +kernel
theorem dX4_unit_5 : decode cX4_unit 5 = .ok (.ifCond .eq 17, 3) := by decide +kernel
theorem dX4_unit_8 : decode cX4_unit 8 = .ok (.iload_n 3, 1) := by decide +kernel
theorem dX4_unit_9 : decode cX4_unit 9 = .ok (.ifCond .lt 13, 3) := by decide +kernel
theorem dX4_unit_12 : decode cX4_unit 12 = .ok (.iload 4, 2) := by decide +kernel
theorem dX4_unit_14 : decode cX4_unit 14 = .ok (.iconst 0, 1) := by decide +kernel
theorem dX4_unit_15 : decode cX4_unit 15 = .ok (.iconst 1, 1) := by decide +kernel
theorem dX4_unit_16 : decode cX4_unit 16 = .ok (.invokestatic 48, 3) := by decide +kernel
theorem dX4_unit_19 : decode cX4_unit 19 = .ok (.ifCond .ne 5, 3) := by decide +kernel
theorem dX4_unit_22 : decode cX4_unit 22 = .ok (.iconst (-1), 1) := by decide +kernel
theorem dX4_unit_23 : decode cX4_unit 23 = .ok (.ireturn, 1) := by decide +kernel
theorem dX4_unit_24 : decode cX4_unit 24 = .ok (.iload_n 1, 1) := by decide +kernel
theorem dX4_unit_25 : decode cX4_unit 25 = .ok (.iload_n 2, 1) := by decide +kernel
theorem dX4_unit_26 : decode cX4_unit 26 = .ok (.invokestatic 124, 3) := by decide +kernel
theorem dX4_unit_29 : decode cX4_unit 29 = .ok (.istore 5, 2) := by decide +kernel
theorem dX4_unit_31 : decode cX4_unit 31 = .ok (.aload_n 0, 1) := by decide +kernel
theorem dX4_unit_32 : decode cX4_unit 32 = .ok (.getfield 19, 3) := by decide +kernel
theorem dX4_unit_35 : decode cX4_unit 35 = .ok (.iload 5, 2) := by decide +kernel
theorem dX4_unit_37 : decode cX4_unit 37 = .ok (.invokevirtual 127, 3) := by decide +kernel
theorem dX4_unit_40 : decode cX4_unit 40 = .ok (.ifCond .eq 16, 3) := by decide +kernel
theorem dX4_unit_43 : decode cX4_unit 43 = .ok (.iload_n 3, 1) := by decide +kernel
theorem dX4_unit_44 : decode cX4_unit 44 = .ok (.aload_n 0, 1) := by decide +kernel
theorem dX4_unit_45 : decode cX4_unit 45 = .ok (.getfield 19, 3) := by decide +kernel
theorem dX4_unit_48 : decode cX4_unit 48 = .ok (.iload 5, 2) := by decide +kernel
theorem dX4_unit_50 : decode cX4_unit 50 = .ok (.invokevirtual 133, 3) := by decide +kernel
theorem dX4_unit_53 : decode cX4_unit 53 = .ok (.if_icmp .lt 6, 3) := by decide +kernel
theorem dX4_unit_56 : decode cX4_unit 56 = .ok (.bipush (-9), 2) := by decide +kernel
theorem dX4_unit_58 : decode cX4_unit 58 = .ok (.ireturn, 1) := by decide +kernel
theorem dX4_unit_59 : decode cX4_unit 59 = .ok (.aload_n 0, 1) := by decide +kernel
theorem dX4_unit_60 : decode cX4_unit 60 = .ok (.getfield 19, 3) := by decide +kernel
theorem dX4_unit_63 : decode cX4_unit 63 = .ok (.iload 5, 2) := by decide +kernel
theorem dX4_unit_65 : decode cX4_unit 65 = .ok (.iload_n 3, 1) := by decide +kernel
theorem dX4_unit_66 : decode cX4_unit 66 = .ok (.iload 4, 2) := by decide +kernel
theorem dX4_unit_68 : decode cX4_unit 68 = .ok (.invokevirtual 136, 3) := by decide +kernel
theorem dX4_unit_71 : decode cX4_unit 71 = .ok (.ireturn, 1) := by decide +kernel
theorem dX4_waiting_0 : decode cX4_waiting 0 = .ok (.iload_n 1, 1) := by decide +kernel
theorem dX4_waiting_1 : decode cX4_waiting 1 = .ok (.ifCond .ge 5, 3) := by decide +kernel
theorem dX4_waiting_4 : decode cX4_waiting 4 = .ok (.iconst (-1), 1) := by decide +kernel
theorem dX4_waiting_5 : decode cX4_waiting 5 = .ok (.ireturn, 1) := by decide +kernel
theorem dX4_waiting_6 : decode cX4_waiting 6 = .ok (.iload_n 1, 1) := by decide +kernel
theorem dX4_waiting_7 : decode cX4_waiting 7 = .ok (.aload_n 0, 1) := by decide +kernel
theorem dX4_waiting_8 : decode cX4_waiting 8 = .ok (.getfield 19, 3) := by decide +kernel
theorem dX4_waiting_11 : decode cX4_waiting 11 = .ok (.getfield 140, 3) := by decide +kernel
theorem dX4_waiting_14 : decode cX4_waiting 14 = .ok (.if_icmp .lt 6, 3) := by decide +kernel
theorem dX4_waiting_17 : decode cX4_waiting 17 = .ok (.bipush (-9), 2) := by decide +kernel
theorem dX4_waiting_19 : decode cX4_waiting 19 = .ok (.ireturn, 1) := by decide +kernel
theorem dX4_waiting_20 : decode cX4_waiting 20 = .ok (.aload_n 0, 1) := by decide +kernel
theorem dX4_waiting_21 : decode cX4_waiting 21 = .ok (.getfield 19, 3) := by decide +kernel
theorem dX4_waiting_24 : decode cX4_waiting 24 = .ok (.getfield 143, 3) := by decide +kernel
theorem dX4_waiting_27 : decode cX4_waiting 27 = .ok (.iload_n 1, 1) := by decide +kernel
theorem dX4_waiting_28 : decode cX4_waiting 28 = .ok (.iaload, 1) := by decide +kernel
theorem dX4_waiting_29 : decode cX4_waiting 29 = .ok (.istore_n 2, 1) := by decide +kernel
theorem dX4_waiting_30 : decode cX4_waiting 30 = .ok (.bipush 8, 2) := by decide +kernel
theorem dX4_waiting_32 : decode cX4_waiting 32 = .ok (.iload_n 2, 1) := by decide +kernel
theorem dX4_waiting_33 : decode cX4_waiting 33 = .ok (.bipush 6, 2) := by decide +kernel
theorem dX4_waiting_35 : decode cX4_waiting 35 = .ok (.idiv, 1) := by decide +kernel
theorem dX4_waiting_36 : decode cX4_waiting 36 = .ok (.imul, 1) := by decide +kernel
theorem dX4_waiting_37 : decode cX4_waiting 37 = .ok (.iload_n 2, 1) := by decide +kernel
theorem dX4_waiting_38 : decode cX4_waiting 38 = .ok (.bipush 6, 2) := by decide +kernel
theorem dX4_waiting_40 : decode cX4_waiting 40 = .ok (.irem, 1) := by decide +kernel
theorem dX4_waiting_41 : decode cX4_waiting 41 = .ok (.iadd, 1) := by decide +kernel
theorem dX4_waiting_42 : decode cX4_waiting 42 = .ok (.ireturn, 1) := by decide +kernel
theorem dX4_both_0 : decode cX4_both 0 = .ok (.iload_n 1, 1) := by decide +kernel
theorem dX4_both_1 : decode cX4_both 1 = .ok (.iload_n 2, 1) := by decide +kernel
theorem dX4_both_2 : decode cX4_both 2 = .ok (.invokestatic 120, 3) := by decide +kernel
theorem dX4_both_5 : decode cX4_both 5 = .ok (.ifCond .eq 12, 3) := by decide +kernel
theorem dX4_both_8 : decode cX4_both 8 = .ok (.iload_n 3, 1) := by decide +kernel
theorem dX4_both_9 : decode cX4_both 9 = .ok (.iload 4, 2) := by decide +kernel
theorem dX4_both_11 : decode cX4_both 11 = .ok (.invokestatic 120, 3) := by decide +kernel
theorem dX4_both_14 : decode cX4_both 14 = .ok (.ifCond .ne 5, 3) := by decide +kernel
theorem dX4_both_17 : decode cX4_both 17 = .ok (.iconst (-1), 1) := by decide +kernel
theorem dX4_both_18 : decode cX4_both 18 = .ok (.ireturn, 1) := by decide +kernel
theorem dX4_both_19 : decode cX4_both 19 = .ok (.iload_n 1, 1) := by decide +kernel
theorem dX4_both_20 : decode cX4_both 20 = .ok (.iload_n 2, 1) := by decide +kernel
theorem dX4_both_21 : decode cX4_both 21 = .ok (.invokestatic 124, 3) := by decide +kernel
theorem dX4_both_24 : decode cX4_both 24 = .ok (.istore 5, 2) := by decide +kernel
theorem dX4_both_26 : decode cX4_both 26 = .ok (.iload_n 3, 1) := by decide +kernel
theorem dX4_both_27 : decode cX4_both 27 = .ok (.iload 4, 2) := by decide +kernel
theorem dX4_both_29 : decode cX4_both 29 = .ok (.invokestatic 124, 3) := by decide +kernel
theorem dX4_both_32 : decode cX4_both 32 = .ok (.istore 6, 2) := by decide +kernel
theorem dX4_both_34 : decode cX4_both 34 = .ok (.aload_n 0, 1) := by decide +kernel
theorem dX4_both_35 : decode cX4_both 35 = .ok (.getfield 19, 3) := by decide +kernel
theorem dX4_both_38 : decode cX4_both 38 = .ok (.iload 5, 2) := by decide +kernel
theorem dX4_both_40 : decode cX4_both 40 = .ok (.invokevirtual 127, 3) := by decide +kernel
theorem dX4_both_43 : decode cX4_both 43 = .ok (.ifCond .eq 15, 3) := by decide +kernel
theorem dX4_both_46 : decode cX4_both 46 = .ok (.aload_n 0, 1) := by decide +kernel
theorem dX4_both_47 : decode cX4_both 47 = .ok (.getfield 19, 3) := by decide +kernel
theorem dX4_both_50 : decode cX4_both 50 = .ok (.iload 6, 2) := by decide +kernel
theorem dX4_both_52 : decode cX4_both 52 = .ok (.invokevirtual 127, 3) := by decide +kernel
theorem dX4_both_55 : decode cX4_both 55 = .ok (.ifCond .ne 6, 3) := by decide +kernel
theorem dX4_both_58 : decode cX4_both 58 = .ok (.bipush (-9), 2) := by decide +kernel
theorem dX4_both_60 : decode cX4_both 60 = .ok (.ireturn, 1) := by decide +kernel
theorem dX4_both_61 : decode cX4_both 61 = .ok (.aload_n 0, 1) := by decide +kernel
theorem dX4_both_62 : decode cX4_both 62 = .ok (.getfield 19, 3) := by decide +kernel
theorem dX4_both_65 : decode cX4_both 65 = .ok (.iload 5, 2) := by decide +kernel
theorem dX4_both_67 : decode cX4_both 67 = .ok (.invokevirtual 146, 3) := by decide +kernel
theorem dX4_both_70 : decode cX4_both 70 = .ok (.aload_n 0, 1) := by decide +kernel
theorem dX4_both_71 : decode cX4_both 71 = .ok (.getfield 19, 3) := by decide +kernel
theorem dX4_both_74 : decode cX4_both 74 = .ok (.iload 6, 2) := by decide +kernel
theorem dX4_both_76 : decode cX4_both 76 = .ok (.invokevirtual 146, 3) := by decide +kernel
theorem dX4_both_79 : decode cX4_both 79 = .ok (.land, 1) := by decide +kernel
theorem dX4_both_80 : decode cX4_both 80 = .ok (.invokestatic 150, 3) := by decide +kernel
theorem dX4_both_83 : decode cX4_both 83 = .ok (.ireturn, 1) := by decide +kernel
theorem dX4_over_0 : decode cX4_over 0 = .ok (.iload_n 1, 1) := by decide +kernel
theorem dX4_over_1 : decode cX4_over 1 = .ok (.invokestatic 85, 3) := by decide +kernel
theorem dX4_over_4 : decode cX4_over 4 = .ok (.ifCond .ne 5, 3) := by decide +kernel
theorem dX4_over_7 : decode cX4_over 7 = .ok (.iconst (-1), 1) := by decide +kernel
theorem dX4_over_8 : decode cX4_over 8 = .ok (.ireturn, 1) := by decide +kernel
theorem dX4_over_9 : decode cX4_over 9 = .ok (.aload_n 0, 1) := by decide +kernel
theorem dX4_over_10 : decode cX4_over 10 = .ok (.getfield 23, 3) := by decide +kernel
theorem dX4_over_13 : decode cX4_over 13 = .ok (.aload_n 0, 1) := by decide +kernel
theorem dX4_over_14 : decode cX4_over 14 = .ok (.getfield 19, 3) := by decide +kernel
theorem dX4_over_17 : decode cX4_over 17 = .ok (.invokevirtual 67, 3) := by decide +kernel
theorem dX4_over_20 : decode cX4_over 20 = .ok (.aload_n 0, 1) := by decide +kernel
theorem dX4_over_21 : decode cX4_over 21 = .ok (.iload_n 1, 1) := by decide +kernel
theorem dX4_over_22 : decode cX4_over 22 = .ok (.sipush 200, 3) := by decide +kernel
theorem dX4_over_25 : decode cX4_over 25 = .ok (.invokevirtual 156, 3) := by decide +kernel
theorem dX4_over_28 : decode cX4_over 28 = .ok (.ireturn, 1) := by decide +kernel
theorem dX4_lands_0 : decode cX4_lands 0 = .ok (.iload_n 1, 1) := by decide +kernel
theorem dX4_lands_1 : decode cX4_lands 1 = .ok (.iconst 0, 1) := by decide +kernel
theorem dX4_lands_2 : decode cX4_lands 2 = .ok (.bipush 63, 2) := by decide +kernel
theorem dX4_lands_4 : decode cX4_lands 4 = .ok (.invokestatic 48, 3) := by decide +kernel
theorem dX4_lands_7 : decode cX4_lands 7 = .ok (.ifCond .eq 14, 3) := by decide +kernel
theorem dX4_lands_10 : decode cX4_lands 10 = .ok (.aload_n 0, 1) := by decide +kernel
theorem dX4_lands_11 : decode cX4_lands 11 = .ok (.getfield 19, 3) := by decide +kernel
theorem dX4_lands_14 : decode cX4_lands 14 = .ok (.iload_n 1, 1) := by decide +kernel
theorem dX4_lands_15 : decode cX4_lands 15 = .ok (.invokevirtual 159, 3) := by decide +kernel
theorem dX4_lands_18 : decode cX4_lands 18 = .ok (.goto 4, 3) := by decide +kernel
theorem dX4_lands_21 : decode cX4_lands 21 = .ok (.iconst (-1), 1) := by decide +kernel
theorem dX4_lands_22 : decode cX4_lands 22 = .ok (.ireturn, 1) := by decide +kernel
theorem dX4_enough_0 : decode cX4_enough 0 = .ok (.iload_n 1, 1) := by decide +kernel
theorem dX4_enough_1 : decode cX4_enough 1 = .ok (.invokestatic 85, 3) := by decide +kernel
theorem dX4_enough_4 : decode cX4_enough 4 = .ok (.ifCond .eq 14, 3) := by decide +kernel
theorem dX4_enough_7 : decode cX4_enough 7 = .ok (.iload_n 2, 1) := by decide +kernel
theorem dX4_enough_8 : decode cX4_enough 8 = .ok (.iconst 0, 1) := by decide +kernel
theorem dX4_enough_9 : decode cX4_enough 9 = .ok (.sipush 200, 3) := by decide +kernel
theorem dX4_enough_12 : decode cX4_enough 12 = .ok (.invokestatic 48, 3) := by decide +kernel
theorem dX4_enough_15 : decode cX4_enough 15 = .ok (.ifCond .ne 5, 3) := by decide +kernel
theorem dX4_enough_18 : decode cX4_enough 18 = .ok (.iconst (-1), 1) := by decide +kernel
theorem dX4_enough_19 : decode cX4_enough 19 = .ok (.ireturn, 1) := by decide +kernel
theorem dX4_enough_20 : decode cX4_enough 20 = .ok (.iconst 1, 1) := by decide +kernel
theorem dX4_enough_21 : decode cX4_enough 21 = .ok (.istore_n 3, 1) := by decide +kernel
theorem dX4_enough_22 : decode cX4_enough 22 = .ok (.iload_n 3, 1) := by decide +kernel
theorem dX4_enough_23 : decode cX4_enough 23 = .ok (.bipush 8, 2) := by decide +kernel
theorem dX4_enough_25 : decode cX4_enough 25 = .ok (.if_icmp .gt 43, 3) := by decide +kernel
theorem dX4_enough_28 : decode cX4_enough 28 = .ok (.aload_n 0, 1) := by decide +kernel
theorem dX4_enough_29 : decode cX4_enough 29 = .ok (.getfield 23, 3) := by decide +kernel
theorem dX4_enough_32 : decode cX4_enough 32 = .ok (.aload_n 0, 1) := by decide +kernel
theorem dX4_enough_33 : decode cX4_enough 33 = .ok (.getfield 19, 3) := by decide +kernel
theorem dX4_enough_36 : decode cX4_enough 36 = .ok (.invokevirtual 67, 3) := by decide +kernel
theorem dX4_enough_39 : decode cX4_enough 39 = .ok (.aload_n 0, 1) := by decide +kernel
theorem dX4_enough_40 : decode cX4_enough 40 = .ok (.getfield 23, 3) := by decide +kernel
theorem dX4_enough_43 : decode cX4_enough 43 = .ok (.iload_n 1, 1) := by decide +kernel
theorem dX4_enough_44 : decode cX4_enough 44 = .ok (.iconst 2, 1) := by decide +kernel
theorem dX4_enough_45 : decode cX4_enough 45 = .ok (.iload_n 3, 1) := by decide +kernel
theorem dX4_enough_46 : decode cX4_enough 46 = .ok (.invokevirtual 99, 3) := by decide +kernel
theorem dX4_enough_49 : decode cX4_enough 49 = .ok (.aload_n 0, 1) := by decide +kernel
theorem dX4_enough_50 : decode cX4_enough 50 = .ok (.iload_n 1, 1) := by decide +kernel
theorem dX4_enough_51 : decode cX4_enough 51 = .ok (.iload_n 2, 1) := by decide +kernel
theorem dX4_enough_52 : decode cX4_enough 52 = .ok (.invokevirtual 156, 3) := by decide +kernel
theorem dX4_enough_55 : decode cX4_enough 55 = .ok (.bipush (-9), 2) := by decide +kernel
theorem dX4_enough_57 : decode cX4_enough 57 = .ok (.if_icmp .eq 5, 3) := by decide +kernel
theorem dX4_enough_60 : decode cX4_enough 60 = .ok (.iload_n 3, 1) := by decide +kernel
theorem dX4_enough_61 : decode cX4_enough 61 = .ok (.ireturn, 1) := by decide +kernel
theorem dX4_enough_62 : decode cX4_enough 62 = .ok (.iinc 3 1, 3) := by decide +kernel
theorem dX4_enough_65 : decode cX4_enough 65 = .ok (.goto (-43), 3) := by decide +kernel
theorem dX4_enough_68 : decode cX4_enough 68 = .ok (.bipush (-9), 2) := by decide +kernel
theorem dX4_enough_70 : decode cX4_enough 70 = .ok (.ireturn, 1) := by decide +kernel
theorem dX4_granted_0 : decode cX4_granted 0 = .ok (.iload_n 1, 1) := by decide +kernel
theorem dX4_granted_1 : decode cX4_granted 1 = .ok (.iconst 1, 1) := by decide +kernel
theorem dX4_granted_2 : decode cX4_granted 2 = .ok (.bipush 40, 2) := by decide +kernel
theorem dX4_granted_4 : decode cX4_granted 4 = .ok (.invokestatic 48, 3) := by decide +kernel
theorem dX4_granted_7 : decode cX4_granted 7 = .ok (.ifCond .ne 5, 3) := by decide +kernel
theorem dX4_granted_10 : decode cX4_granted 10 = .ok (.iconst (-1), 1) := by decide +kernel
theorem dX4_granted_11 : decode cX4_granted 11 = .ok (.ireturn, 1) := by decide +kernel
theorem dX4_granted_12 : decode cX4_granted 12 = .ok (.aload_n 0, 1) := by decide +kernel
theorem dX4_granted_13 : decode cX4_granted 13 = .ok (.getfield 23, 3) := by decide +kernel
theorem dX4_granted_16 : decode cX4_granted 16 = .ok (.aload_n 0, 1) := by decide +kernel
theorem dX4_granted_17 : decode cX4_granted 17 = .ok (.getfield 19, 3) := by decide +kernel
theorem dX4_granted_20 : decode cX4_granted 20 = .ok (.invokevirtual 67, 3) := by decide +kernel
theorem dX4_granted_23 : decode cX4_granted 23 = .ok (.iconst 1, 1) := by decide +kernel
theorem dX4_granted_24 : decode cX4_granted 24 = .ok (.istore_n 2, 1) := by decide +kernel
theorem dX4_granted_25 : decode cX4_granted 25 = .ok (.iload_n 2, 1) := by decide +kernel
theorem dX4_granted_26 : decode cX4_granted 26 = .ok (.iload_n 1, 1) := by decide +kernel
theorem dX4_granted_27 : decode cX4_granted 27 = .ok (.if_icmp .ge 18, 3) := by decide +kernel
theorem dX4_granted_30 : decode cX4_granted 30 = .ok (.aload_n 0, 1) := by decide +kernel
theorem dX4_granted_31 : decode cX4_granted 31 = .ok (.getfield 23, 3) := by decide +kernel
theorem dX4_granted_34 : decode cX4_granted 34 = .ok (.iconst 0, 1) := by decide +kernel
theorem dX4_granted_35 : decode cX4_granted 35 = .ok (.invokevirtual 81, 3) := by decide +kernel
theorem dX4_granted_38 : decode cX4_granted 38 = .ok (.pop, 1) := by decide +kernel
theorem dX4_granted_39 : decode cX4_granted 39 = .ok (.iinc 2 1, 3) := by decide +kernel
theorem dX4_granted_42 : decode cX4_granted 42 = .ok (.goto (-17), 3) := by decide +kernel
theorem dX4_granted_45 : decode cX4_granted 45 = .ok (.aload_n 0, 1) := by decide +kernel
theorem dX4_granted_46 : decode cX4_granted 46 = .ok (.getfield 23, 3) := by decide +kernel
theorem dX4_granted_49 : decode cX4_granted 49 = .ok (.iconst 0, 1) := by decide +kernel
theorem dX4_granted_50 : decode cX4_granted 50 = .ok (.invokevirtual 81, 3) := by decide +kernel
theorem dX4_granted_53 : decode cX4_granted 53 = .ok (.ireturn, 1) := by decide +kernel
theorem dX4_sees_0 : decode cX4_sees 0 = .ok (.iload_n 1, 1) := by decide +kernel
theorem dX4_sees_1 : decode cX4_sees 1 = .ok (.iconst 1, 1) := by decide +kernel
theorem dX4_sees_2 : decode cX4_sees 2 = .ok (.bipush 40, 2) := by decide +kernel
theorem dX4_sees_4 : decode cX4_sees 4 = .ok (.invokestatic 48, 3) := by decide +kernel
theorem dX4_sees_7 : decode cX4_sees 7 = .ok (.ifCond .eq 16, 3) := by decide +kernel
theorem dX4_sees_10 : decode cX4_sees 10 = .ok (.iload_n 2, 1) := by decide +kernel
theorem dX4_sees_11 : decode cX4_sees 11 = .ok (.invokestatic 85, 3) := by decide +kernel
theorem dX4_sees_14 : decode cX4_sees 14 = .ok (.ifCond .ne 11, 3) := by decide +kernel
theorem dX4_sees_17 : decode cX4_sees 17 = .ok (.iload_n 2, 1) := by decide +kernel
theorem dX4_sees_18 : decode cX4_sees 18 = .ok (.bipush (-9), 2) := by decide +kernel
theorem dX4_sees_20 : decode cX4_sees 20 = .ok (.if_icmp .eq 5, 3) := by decide +kernel
theorem dX4_sees_23 : decode cX4_sees 23 = .ok (.iconst (-1), 1) := by decide +kernel
theorem dX4_sees_24 : decode cX4_sees 24 = .ok (.ireturn, 1) := by decide +kernel
theorem dX4_sees_25 : decode cX4_sees 25 = .ok (.aload_n 0, 1) := by decide +kernel
theorem dX4_sees_26 : decode cX4_sees 26 = .ok (.getfield 36, 3) := by decide +kernel
theorem dX4_sees_29 : decode cX4_sees 29 = .ok (.iload_n 1, 1) := by decide +kernel
theorem dX4_sees_30 : decode cX4_sees 30 = .ok (.iload_n 2, 1) := by decide +kernel
theorem dX4_sees_31 : decode cX4_sees 31 = .ok (.invokevirtual 162, 3) := by decide +kernel
theorem dX4_sees_34 : decode cX4_sees 34 = .ok (.ifCond .eq 13, 3) := by decide +kernel
theorem dX4_sees_37 : decode cX4_sees 37 = .ok (.aload_n 0, 1) := by decide +kernel
theorem dX4_sees_38 : decode cX4_sees 38 = .ok (.getfield 36, 3) := by decide +kernel
theorem dX4_sees_41 : decode cX4_sees 41 = .ok (.getfield 165, 3) := by decide +kernel
theorem dX4_sees_44 : decode cX4_sees 44 = .ok (.goto 5, 3) := by decide +kernel
theorem dX4_sees_47 : decode cX4_sees 47 = .ok (.bipush (-3), 2) := by decide +kernel
theorem dX4_sees_49 : decode cX4_sees 49 = .ok (.ireturn, 1) := by decide +kernel
theorem dX4_forget_0 : decode cX4_forget 0 = .ok (.aload_n 0, 1) := by decide +kernel
theorem dX4_forget_1 : decode cX4_forget 1 = .ok (.getfield 36, 3) := by decide +kernel
theorem dX4_forget_4 : decode cX4_forget 4 = .ok (.getfield 165, 3) := by decide +kernel
theorem dX4_forget_7 : decode cX4_forget 7 = .ok (.istore_n 1, 1) := by decide +kernel
theorem dX4_forget_8 : decode cX4_forget 8 = .ok (.aload_n 0, 1) := by decide +kernel
theorem dX4_forget_9 : decode cX4_forget 9 = .ok (.getfield 36, 3) := by decide +kernel
theorem dX4_forget_12 : decode cX4_forget 12 = .ok (.invokevirtual 168, 3) := by decide +kernel
theorem dX4_forget_15 : decode cX4_forget 15 = .ok (.iload_n 1, 1) := by decide +kernel
theorem dX4_forget_16 : decode cX4_forget 16 = .ok (.ireturn, 1) := by decide +kernel
theorem dX4_ranks_0 : decode cX4_ranks 0 = .ok (.iload_n 1, 1) := by decide +kernel
theorem dX4_ranks_1 : decode cX4_ranks 1 = .ok (.invokestatic 85, 3) := by decide +kernel
theorem dX4_ranks_4 : decode cX4_ranks 4 = .ok (.ifCond .ne 5, 3) := by decide +kernel
theorem dX4_ranks_7 : decode cX4_ranks 7 = .ok (.iconst (-1), 1) := by decide +kernel
theorem dX4_ranks_8 : decode cX4_ranks 8 = .ok (.ireturn, 1) := by decide +kernel
theorem dX4_ranks_9 : decode cX4_ranks 9 = .ok (.iconst 0, 1) := by decide +kernel
theorem dX4_ranks_10 : decode cX4_ranks 10 = .ok (.istore_n 2, 1) := by decide +kernel
theorem dX4_ranks_11 : decode cX4_ranks 11 = .ok (.iconst 0, 1) := by decide +kernel
theorem dX4_ranks_12 : decode cX4_ranks 12 = .ok (.istore_n 3, 1) := by decide +kernel
theorem dX4_ranks_13 : decode cX4_ranks 13 = .ok (.iload_n 3, 1) := by decide +kernel
theorem dX4_ranks_14 : decode cX4_ranks 14 = .ok (.iconst 3, 1) := by decide +kernel
theorem dX4_ranks_15 : decode cX4_ranks 15 = .ok (.if_icmp .gt 50, 3) := by decide +kernel
theorem dX4_ranks_18 : decode cX4_ranks 18 = .ok (.aload_n 0, 1) := by decide +kernel
theorem dX4_ranks_19 : decode cX4_ranks 19 = .ok (.getfield 23, 3) := by decide +kernel
theorem dX4_ranks_22 : decode cX4_ranks 22 = .ok (.aload_n 0, 1) := by decide +kernel
theorem dX4_ranks_23 : decode cX4_ranks 23 = .ok (.getfield 19, 3) := by decide +kernel
theorem dX4_ranks_26 : decode cX4_ranks 26 = .ok (.invokevirtual 67, 3) := by decide +kernel
theorem dX4_ranks_29 : decode cX4_ranks 29 = .ok (.aload_n 0, 1) := by decide +kernel
theorem dX4_ranks_30 : decode cX4_ranks 30 = .ok (.getfield 23, 3) := by decide +kernel
theorem dX4_ranks_33 : decode cX4_ranks 33 = .ok (.iload_n 1, 1) := by decide +kernel
theorem dX4_ranks_34 : decode cX4_ranks 34 = .ok (.iconst 1, 1) := by decide +kernel
theorem dX4_ranks_35 : decode cX4_ranks 35 = .ok (.iload_n 3, 1) := by decide +kernel
theorem dX4_ranks_36 : decode cX4_ranks 36 = .ok (.invokevirtual 99, 3) := by decide +kernel
theorem dX4_ranks_39 : decode cX4_ranks 39 = .ok (.aload_n 0, 1) := by decide +kernel
theorem dX4_ranks_40 : decode cX4_ranks 40 = .ok (.getfield 36, 3) := by decide +kernel
theorem dX4_ranks_43 : decode cX4_ranks 43 = .ok (.aload_n 0, 1) := by decide +kernel
theorem dX4_ranks_44 : decode cX4_ranks 44 = .ok (.getfield 23, 3) := by decide +kernel
theorem dX4_ranks_47 : decode cX4_ranks 47 = .ok (.invokevirtual 171, 3) := by decide +kernel
theorem dX4_ranks_50 : decode cX4_ranks 50 = .ok (.ifCond .eq 9, 3) := by decide +kernel
theorem dX4_ranks_53 : decode cX4_ranks 53 = .ok (.iload_n 2, 1) := by decide +kernel
theorem dX4_ranks_54 : decode cX4_ranks 54 = .ok (.iconst 1, 1) := by decide +kernel
theorem dX4_ranks_55 : decode cX4_ranks 55 = .ok (.iload_n 3, 1) := by decide +kernel
theorem dX4_ranks_56 : decode cX4_ranks 56 = .ok (.ishl, 1) := by decide +kernel
theorem dX4_ranks_57 : decode cX4_ranks 57 = .ok (.ior, 1) := by decide +kernel
theorem dX4_ranks_58 : decode cX4_ranks 58 = .ok (.istore_n 2, 1) := by decide +kernel
theorem dX4_ranks_59 : decode cX4_ranks 59 = .ok (.iinc 3 1, 3) := by decide +kernel
theorem dX4_ranks_62 : decode cX4_ranks 62 = .ok (.goto (-49), 3) := by decide +kernel
theorem dX4_ranks_65 : decode cX4_ranks 65 = .ok (.iload_n 2, 1) := by decide +kernel
theorem dX4_ranks_66 : decode cX4_ranks 66 = .ok (.ireturn, 1) := by decide +kernel
theorem dX4_keep_0 : decode cX4_keep 0 = .ok (.iload_n 1, 1) := by decide +kernel
theorem dX4_keep_1 : decode cX4_keep 1 = .ok (.iconst 0, 1) := by decide +kernel
theorem dX4_keep_2 : decode cX4_keep 2 = .ok (.iconst 1, 1) := by decide +kernel
theorem dX4_keep_3 : decode cX4_keep 3 = .ok (.invokestatic 48, 3) := by decide +kernel
theorem dX4_keep_6 : decode cX4_keep 6 = .ok (.ifCond .ne 5, 3) := by decide +kernel
theorem dX4_keep_9 : decode cX4_keep 9 = .ok (.iconst (-1), 1) := by decide +kernel
theorem dX4_keep_10 : decode cX4_keep 10 = .ok (.ireturn, 1) := by decide +kernel
theorem dX4_keep_11 : decode cX4_keep 11 = .ok (.aload_n 0, 1) := by decide +kernel
theorem dX4_keep_12 : decode cX4_keep 12 = .ok (.getfield 40, 3) := by decide +kernel
theorem dX4_keep_15 : decode cX4_keep 15 = .ok (.iload_n 1, 1) := by decide +kernel
theorem dX4_keep_16 : decode cX4_keep 16 = .ok (.aaload, 1) := by decide +kernel
theorem dX4_keep_17 : decode cX4_keep 17 = .ok (.aload_n 0, 1) := by decide +kernel
theorem dX4_keep_18 : decode cX4_keep 18 = .ok (.getfield 19, 3) := by decide +kernel
theorem dX4_keep_21 : decode cX4_keep 21 = .ok (.invokevirtual 67, 3) := by decide +kernel
theorem dX4_keep_24 : decode cX4_keep 24 = .ok (.aload_n 0, 1) := by decide +kernel
theorem dX4_keep_25 : decode cX4_keep 25 = .ok (.getfield 44, 3) := by decide +kernel
theorem dX4_keep_28 : decode cX4_keep 28 = .ok (.iload_n 1, 1) := by decide +kernel
theorem dX4_keep_29 : decode cX4_keep 29 = .ok (.iconst 1, 1) := by decide +kernel
theorem dX4_keep_30 : decode cX4_keep 30 = .ok (.bastore, 1) := by decide +kernel
theorem dX4_keep_31 : decode cX4_keep 31 = .ok (.aload_n 0, 1) := by decide +kernel
theorem dX4_keep_32 : decode cX4_keep 32 = .ok (.getfield 19, 3) := by decide +kernel
theorem dX4_keep_35 : decode cX4_keep 35 = .ok (.invokevirtual 174, 3) := by decide +kernel
theorem dX4_keep_38 : decode cX4_keep 38 = .ok (.ireturn, 1) := by decide +kernel
theorem dX4_back_0 : decode cX4_back 0 = .ok (.iload_n 1, 1) := by decide +kernel
theorem dX4_back_1 : decode cX4_back 1 = .ok (.iconst 0, 1) := by decide +kernel
theorem dX4_back_2 : decode cX4_back 2 = .ok (.iconst 1, 1) := by decide +kernel
theorem dX4_back_3 : decode cX4_back 3 = .ok (.invokestatic 48, 3) := by decide +kernel
theorem dX4_back_6 : decode cX4_back 6 = .ok (.ifCond .ne 5, 3) := by decide +kernel
theorem dX4_back_9 : decode cX4_back 9 = .ok (.iconst (-1), 1) := by decide +kernel
theorem dX4_back_10 : decode cX4_back 10 = .ok (.ireturn, 1) := by decide +kernel
theorem dX4_back_11 : decode cX4_back 11 = .ok (.aload_n 0, 1) := by decide +kernel
theorem dX4_back_12 : decode cX4_back 12 = .ok (.getfield 44, 3) := by decide +kernel
theorem dX4_back_15 : decode cX4_back 15 = .ok (.iload_n 1, 1) := by decide +kernel
theorem dX4_back_16 : decode cX4_back 16 = .ok (.baload, 1) := by decide +kernel
theorem dX4_back_17 : decode cX4_back 17 = .ok (.ifCond .ne 6, 3) := by decide +kernel
theorem dX4_back_20 : decode cX4_back 20 = .ok (.bipush (-2), 2) := by decide +kernel
theorem dX4_back_22 : decode cX4_back 22 = .ok (.ireturn, 1) := by decide +kernel
theorem dX4_back_23 : decode cX4_back 23 = .ok (.aload_n 0, 1) := by decide +kernel
theorem dX4_back_24 : decode cX4_back 24 = .ok (.getfield 19, 3) := by decide +kernel
theorem dX4_back_27 : decode cX4_back 27 = .ok (.aload_n 0, 1) := by decide +kernel
theorem dX4_back_28 : decode cX4_back 28 = .ok (.getfield 40, 3) := by decide +kernel
theorem dX4_back_31 : decode cX4_back 31 = .ok (.iload_n 1, 1) := by decide +kernel
theorem dX4_back_32 : decode cX4_back 32 = .ok (.aaload, 1) := by decide +kernel
theorem dX4_back_33 : decode cX4_back 33 = .ok (.invokevirtual 67, 3) := by decide +kernel
theorem dX4_back_36 : decode cX4_back 36 = .ok (.aload_n 0, 1) := by decide +kernel
theorem dX4_back_37 : decode cX4_back 37 = .ok (.getfield 29, 3) := by decide +kernel
theorem dX4_back_40 : decode cX4_back 40 = .ok (.invokevirtual 177, 3) := by decide +kernel
theorem dX4_back_43 : decode cX4_back 43 = .ok (.aload_n 0, 1) := by decide +kernel
theorem dX4_back_44 : decode cX4_back 44 = .ok (.getfield 19, 3) := by decide +kernel
theorem dX4_back_47 : decode cX4_back 47 = .ok (.invokevirtual 174, 3) := by decide +kernel
theorem dX4_back_50 : decode cX4_back 50 = .ok (.ireturn, 1) := by decide +kernel
theorem dX4_count_0 : decode cX4_count 0 = .ok (.iload_n 1, 1) := by decide +kernel
theorem dX4_count_1 : decode cX4_count 1 = .ok (.tableswitch 99 0 6 #[43, 51, 59, 67, 75, 83, 91], 43) := by decide +kernel
theorem dX4_count_44 : decode cX4_count 44 = .ok (.aload_n 0, 1) := by decide +kernel
theorem dX4_count_45 : decode cX4_count 45 = .ok (.getfield 19, 3) := by decide +kernel
theorem dX4_count_48 : decode cX4_count 48 = .ok (.invokevirtual 174, 3) := by decide +kernel
theorem dX4_count_51 : decode cX4_count 51 = .ok (.ireturn, 1) := by decide +kernel
theorem dX4_count_52 : decode cX4_count 52 = .ok (.aload_n 0, 1) := by decide +kernel
theorem dX4_count_53 : decode cX4_count 53 = .ok (.getfield 19, 3) := by decide +kernel
theorem dX4_count_56 : decode cX4_count 56 = .ok (.getfield 140, 3) := by decide +kernel
theorem dX4_count_59 : decode cX4_count 59 = .ok (.ireturn, 1) := by decide +kernel
theorem dX4_count_60 : decode cX4_count 60 = .ok (.aload_n 0, 1) := by decide +kernel
theorem dX4_count_61 : decode cX4_count 61 = .ok (.getfield 19, 3) := by decide +kernel
theorem dX4_count_64 : decode cX4_count 64 = .ok (.getfield 180, 3) := by decide +kernel
theorem dX4_count_67 : decode cX4_count 67 = .ok (.ireturn, 1) := by decide +kernel
theorem dX4_count_68 : decode cX4_count 68 = .ok (.aload_n 0, 1) := by decide +kernel
theorem dX4_count_69 : decode cX4_count 69 = .ok (.getfield 36, 3) := by decide +kernel
theorem dX4_count_72 : decode cX4_count 72 = .ok (.getfield 165, 3) := by decide +kernel
theorem dX4_count_75 : decode cX4_count 75 = .ok (.ireturn, 1) := by decide +kernel
theorem dX4_count_76 : decode cX4_count 76 = .ok (.aload_n 0, 1) := by decide +kernel
theorem dX4_count_77 : decode cX4_count 77 = .ok (.getfield 10, 3) := by decide +kernel
theorem dX4_count_80 : decode cX4_count 80 = .ok (.getfield 56, 3) := by decide +kernel
theorem dX4_count_83 : decode cX4_count 83 = .ok (.ireturn, 1) := by decide +kernel
theorem dX4_count_84 : decode cX4_count 84 = .ok (.aload_n 0, 1) := by decide +kernel
theorem dX4_count_85 : decode cX4_count 85 = .ok (.getfield 29, 3) := by decide +kernel
theorem dX4_count_88 : decode cX4_count 88 = .ok (.getfield 107, 3) := by decide +kernel
theorem dX4_count_91 : decode cX4_count 91 = .ok (.ireturn, 1) := by decide +kernel
theorem dX4_count_92 : decode cX4_count 92 = .ok (.aload_n 0, 1) := by decide +kernel
theorem dX4_count_93 : decode cX4_count 93 = .ok (.getfield 19, 3) := by decide +kernel
theorem dX4_count_96 : decode cX4_count 96 = .ok (.getfield 183, 3) := by decide +kernel
theorem dX4_count_99 : decode cX4_count 99 = .ok (.ireturn, 1) := by decide +kernel
theorem dX4_count_100 : decode cX4_count 100 = .ok (.iconst (-1), 1) := by decide +kernel
theorem dX4_count_101 : decode cX4_count 101 = .ok (.ireturn, 1) := by decide +kernel
theorem dX4_within_0 : decode cX4_within 0 = .ok (.iload_n 0, 1) := by decide +kernel
theorem dX4_within_1 : decode cX4_within 1 = .ok (.iload_n 1, 1) := by decide +kernel
theorem dX4_within_2 : decode cX4_within 2 = .ok (.if_icmp .lt 12, 3) := by decide +kernel
theorem dX4_within_5 : decode cX4_within 5 = .ok (.iload_n 0, 1) := by decide +kernel
theorem dX4_within_6 : decode cX4_within 6 = .ok (.iload_n 2, 1) := by decide +kernel
theorem dX4_within_7 : decode cX4_within 7 = .ok (.if_icmp .gt 7, 3) := by decide +kernel
theorem dX4_within_10 : decode cX4_within 10 = .ok (.iconst 1, 1) := by decide +kernel
theorem dX4_within_11 : decode cX4_within 11 = .ok (.goto 4, 3) := by decide +kernel
theorem dX4_within_14 : decode cX4_within 14 = .ok (.iconst 0, 1) := by decide +kernel
theorem dX4_within_15 : decode cX4_within 15 = .ok (.ireturn, 1) := by decide +kernel
theorem dX4_isChannel_0 : decode cX4_isChannel 0 = .ok (.iload_n 0, 1) := by decide +kernel
theorem dX4_isChannel_1 : decode cX4_isChannel 1 = .ok (.iconst 0, 1) := by decide +kernel
theorem dX4_isChannel_2 : decode cX4_isChannel 2 = .ok (.iconst 3, 1) := by decide +kernel
theorem dX4_isChannel_3 : decode cX4_isChannel 3 = .ok (.invokestatic 48, 3) := by decide +kernel
theorem dX4_isChannel_6 : decode cX4_isChannel 6 = .ok (.ireturn, 1) := by decide +kernel
theorem dX4_isSlot_0 : decode cX4_isSlot 0 = .ok (.iload_n 0, 1) := by decide +kernel
theorem dX4_isSlot_1 : decode cX4_isSlot 1 = .ok (.invokestatic 85, 3) := by decide +kernel
theorem dX4_isSlot_4 : decode cX4_isSlot 4 = .ok (.ifCond .eq 16, 3) := by decide +kernel
theorem dX4_isSlot_7 : decode cX4_isSlot 7 = .ok (.iload_n 1, 1) := by decide +kernel
theorem dX4_isSlot_8 : decode cX4_isSlot 8 = .ok (.iconst 0, 1) := by decide +kernel
theorem dX4_isSlot_9 : decode cX4_isSlot 9 = .ok (.iconst 5, 1) := by decide +kernel
theorem dX4_isSlot_10 : decode cX4_isSlot 10 = .ok (.invokestatic 48, 3) := by decide +kernel
theorem dX4_isSlot_13 : decode cX4_isSlot 13 = .ok (.ifCond .eq 7, 3) := by decide +kernel
theorem dX4_isSlot_16 : decode cX4_isSlot 16 = .ok (.iconst 1, 1) := by decide +kernel
theorem dX4_isSlot_17 : decode cX4_isSlot 17 = .ok (.goto 4, 3) := by decide +kernel
theorem dX4_isSlot_20 : decode cX4_isSlot 20 = .ok (.iconst 0, 1) := by decide +kernel
theorem dX4_isSlot_21 : decode cX4_isSlot 21 = .ok (.ireturn, 1) := by decide +kernel
theorem dX4_presentResidue_0 : decode cX4_presentResidue 0 = .ok (.aload_n 0, 1) := by decide +kernel
theorem dX4_presentResidue_1 : decode cX4_presentResidue 1 = .ok (.getfield 19, 3) := by decide +kernel
theorem dX4_presentResidue_4 : decode cX4_presentResidue 4 = .ok (.iload_n 1, 1) := by decide +kernel
theorem dX4_presentResidue_5 : decode cX4_presentResidue 5 = .ok (.invokevirtual 88, 3) := by decide +kernel
theorem dX4_presentResidue_8 : decode cX4_presentResidue 8 = .ok (.istore_n 2, 1) := by decide +kernel
theorem dX4_presentResidue_9 : decode cX4_presentResidue 9 = .ok (.iload_n 2, 1) := by decide +kernel
theorem dX4_presentResidue_10 : decode cX4_presentResidue 10 = .ok (.bipush (-9), 2) := by decide +kernel
theorem dX4_presentResidue_12 : decode cX4_presentResidue 12 = .ok (.if_icmp .ne 7, 3) := by decide +kernel
theorem dX4_presentResidue_15 : decode cX4_presentResidue 15 = .ok (.iconst 0, 1) := by decide +kernel
theorem dX4_presentResidue_16 : decode cX4_presentResidue 16 = .ok (.goto 13, 3) := by decide +kernel
theorem dX4_presentResidue_19 : decode cX4_presentResidue 19 = .ok (.aload_n 0, 1) := by decide +kernel
theorem dX4_presentResidue_20 : decode cX4_presentResidue 20 = .ok (.getfield 19, 3) := by decide +kernel
theorem dX4_presentResidue_23 : decode cX4_presentResidue 23 = .ok (.iload_n 2, 1) := by decide +kernel
theorem dX4_presentResidue_24 : decode cX4_presentResidue 24 = .ok (.bipush 11, 2) := by decide +kernel
theorem dX4_presentResidue_26 : decode cX4_presentResidue 26 = .ok (.invokevirtual 130, 3) := by decide +kernel
theorem dX4_presentResidue_29 : decode cX4_presentResidue 29 = .ok (.ireturn, 1) := by decide +kernel
theorem dX4_ticksUntilOver_0 : decode cX4_ticksUntilOver 0 = .ok (.iconst 0, 1) := by decide +kernel
theorem dX4_ticksUntilOver_1 : decode cX4_ticksUntilOver 1 = .ok (.istore_n 3, 1) := by decide +kernel
theorem dX4_ticksUntilOver_2 : decode cX4_ticksUntilOver 2 = .ok (.iload_n 3, 1) := by decide +kernel
theorem dX4_ticksUntilOver_3 : decode cX4_ticksUntilOver 3 = .ok (.iload_n 2, 1) := by decide +kernel
theorem dX4_ticksUntilOver_4 : decode cX4_ticksUntilOver 4 = .ok (.if_icmp .gt 72, 3) := by decide +kernel
theorem dX4_ticksUntilOver_7 : decode cX4_ticksUntilOver 7 = .ok (.aload_n 0, 1) := by decide +kernel
theorem dX4_ticksUntilOver_8 : decode cX4_ticksUntilOver 8 = .ok (.getfield 23, 3) := by decide +kernel
theorem dX4_ticksUntilOver_11 : decode cX4_ticksUntilOver 11 = .ok (.iload_n 1, 1) := by decide +kernel
theorem dX4_ticksUntilOver_12 : decode cX4_ticksUntilOver 12 = .ok (.invokevirtual 186, 3) := by decide +kernel
theorem dX4_ticksUntilOver_15 : decode cX4_ticksUntilOver 15 = .ok (.ifCond .ne 5, 3) := by decide +kernel
theorem dX4_ticksUntilOver_18 : decode cX4_ticksUntilOver 18 = .ok (.iload_n 3, 1) := by decide +kernel
theorem dX4_ticksUntilOver_19 : decode cX4_ticksUntilOver 19 = .ok (.ireturn, 1) := by decide +kernel
theorem dX4_ticksUntilOver_20 : decode cX4_ticksUntilOver 20 = .ok (.aload_n 0, 1) := by decide +kernel
theorem dX4_ticksUntilOver_21 : decode cX4_ticksUntilOver 21 = .ok (.getfield 23, 3) := by decide +kernel
theorem dX4_ticksUntilOver_24 : decode cX4_ticksUntilOver 24 = .ok (.getfield 140, 3) := by decide +kernel
theorem dX4_ticksUntilOver_27 : decode cX4_ticksUntilOver 27 = .ok (.ifCond .ne 7, 3) := by decide +kernel
theorem dX4_ticksUntilOver_30 : decode cX4_ticksUntilOver 30 = .ok (.iconst 1, 1) := by decide +kernel
theorem dX4_ticksUntilOver_31 : decode cX4_ticksUntilOver 31 = .ok (.goto 4, 3) := by decide +kernel
theorem dX4_ticksUntilOver_34 : decode cX4_ticksUntilOver 34 = .ok (.iconst 0, 1) := by decide +kernel
theorem dX4_ticksUntilOver_35 : decode cX4_ticksUntilOver 35 = .ok (.istore 4, 2) := by decide +kernel
theorem dX4_ticksUntilOver_37 : decode cX4_ticksUntilOver 37 = .ok (.aload_n 0, 1) := by decide +kernel
theorem dX4_ticksUntilOver_38 : decode cX4_ticksUntilOver 38 = .ok (.getfield 23, 3) := by decide +kernel
theorem dX4_ticksUntilOver_41 : decode cX4_ticksUntilOver 41 = .ok (.iconst 0, 1) := by decide +kernel
theorem dX4_ticksUntilOver_42 : decode cX4_ticksUntilOver 42 = .ok (.invokevirtual 81, 3) := by decide +kernel
theorem dX4_ticksUntilOver_45 : decode cX4_ticksUntilOver 45 = .ok (.bipush (-9), 2) := by decide +kernel
theorem dX4_ticksUntilOver_47 : decode cX4_ticksUntilOver 47 = .ok (.if_icmp .ne 7, 3) := by decide +kernel
theorem dX4_ticksUntilOver_50 : decode cX4_ticksUntilOver 50 = .ok (.iconst 1, 1) := by decide +kernel
theorem dX4_ticksUntilOver_51 : decode cX4_ticksUntilOver 51 = .ok (.goto 4, 3) := by decide +kernel
theorem dX4_ticksUntilOver_54 : decode cX4_ticksUntilOver 54 = .ok (.iconst 0, 1) := by decide +kernel
theorem dX4_ticksUntilOver_55 : decode cX4_ticksUntilOver 55 = .ok (.istore 5, 2) := by decide +kernel
theorem dX4_ticksUntilOver_57 : decode cX4_ticksUntilOver 57 = .ok (.iload 4, 2) := by decide +kernel
theorem dX4_ticksUntilOver_59 : decode cX4_ticksUntilOver 59 = .ok (.ifCond .eq 11, 3) := by decide +kernel
theorem dX4_ticksUntilOver_62 : decode cX4_ticksUntilOver 62 = .ok (.iload 5, 2) := by decide +kernel
theorem dX4_ticksUntilOver_64 : decode cX4_ticksUntilOver 64 = .ok (.ifCond .eq 6, 3) := by decide +kernel
theorem dX4_ticksUntilOver_67 : decode cX4_ticksUntilOver 67 = .ok (.bipush (-9), 2) := by decide +kernel
theorem dX4_ticksUntilOver_69 : decode cX4_ticksUntilOver 69 = .ok (.ireturn, 1) := by decide +kernel
theorem dX4_ticksUntilOver_70 : decode cX4_ticksUntilOver 70 = .ok (.iinc 3 1, 3) := by decide +kernel
theorem dX4_ticksUntilOver_73 : decode cX4_ticksUntilOver 73 = .ok (.goto (-71), 3) := by decide +kernel
theorem dX4_ticksUntilOver_76 : decode cX4_ticksUntilOver 76 = .ok (.bipush (-9), 2) := by decide +kernel
theorem dX4_ticksUntilOver_78 : decode cX4_ticksUntilOver 78 = .ok (.ireturn, 1) := by decide +kernel
end
section
theorem dX5_in_0 : decode cX5_in 0 = .ok (.iload_n 0, 1) := by decide +kernel
theorem dX5_in_1 : decode cX5_in 1 = .ok (.iload_n 1, 1) := by decide +kernel
theorem dX5_in_2 : decode cX5_in 2 = .ok (.if_icmp .lt 12, 3) := by decide +kernel
theorem dX5_in_5 : decode cX5_in 5 = .ok (.iload_n 0, 1) := by decide +kernel
theorem dX5_in_6 : decode cX5_in 6 = .ok (.iload_n 2, 1) := by decide +kernel
theorem dX5_in_7 : decode cX5_in 7 = .ok (.if_icmp .gt 7, 3) := by decide +kernel
theorem dX5_in_10 : decode cX5_in 10 = .ok (.iconst 1, 1) := by decide +kernel
theorem dX5_in_11 : decode cX5_in 11 = .ok (.goto 4, 3) := by decide +kernel
theorem dX5_in_14 : decode cX5_in 14 = .ok (.iconst 0, 1) := by decide +kernel
theorem dX5_in_15 : decode cX5_in 15 = .ok (.ireturn, 1) := by decide +kernel
theorem dX5_init_0 : decode cX5_init 0 = .ok (.aload_n 0, 1) := by decide +kernel
theorem dX5_init_1 : decode cX5_init 1 = .ok (.invokespecial 1, 3) := by decide +kernel
theorem dX5_init_4 : decode cX5_init 4 = .ok (.aload_n 0, 1) := by decide +kernel
theorem dX5_init_5 : decode cX5_init 5 = .ok (.sipush 455, 3) := by decide +kernel
theorem dX5_init_8 : decode cX5_init 8 = .ok (.newarray .int, 2) := by decide +kernel
theorem dX5_init_10 : decode cX5_init 10 = .ok (.putfield 7, 3) := by decide +kernel
theorem dX5_init_13 : decode cX5_init 13 = .ok (.aload_n 0, 1) := by decide +kernel
theorem dX5_init_14 : decode cX5_init 14 = .ok (.sipush 2730, 3) := by decide +kernel
theorem dX5_init_17 : decode cX5_init 17 = .ok (.newarray .int, 2) := by decide +kernel
theorem dX5_init_19 : decode cX5_init 19 = .ok (.putfield 13, 3) := by decide +kernel
theorem dX5_init_22 : decode cX5_init 22 = .ok (.aload_n 0, 1) := by decide +kernel
theorem dX5_init_23 : decode cX5_init 23 = .ok (.iconst 2, 1) := by decide +kernel
theorem dX5_init_24 : decode cX5_init 24 = .ok (.newarray .boolean, 2) := by decide +kernel
theorem dX5_init_26 : decode cX5_init 26 = .ok (.putfield 16, 3) := by decide +kernel
theorem dX5_init_29 : decode cX5_init 29 = .ok (.aload_n 0, 1) := by decide +kernel
theorem dX5_init_30 : decode cX5_init 30 = .ok (.sipush 910, 3) := by decide +kernel
theorem dX5_init_33 : decode cX5_init 33 = .ok (.newarray .int, 2) := by decide +kernel
theorem dX5_init_35 : decode cX5_init 35 = .ok (.putfield 20, 3) := by decide +kernel
theorem dX5_init_38 : decode cX5_init 38 = .ok (.aload_n 0, 1) := by decide +kernel
theorem dX5_init_39 : decode cX5_init 39 = .ok (.sipush 455, 3) := by decide +kernel
theorem dX5_init_42 : decode cX5_init 42 = .ok (.newarray .int, 2) := by decide +kernel
theorem dX5_init_44 : decode cX5_init 44 = .ok (.putfield 23, 3) := by decide +kernel
theorem dX5_init_47 : decode cX5_init 47 = .ok (.aload_n 0, 1) := by decide +kernel
theorem dX5_init_48 : decode cX5_init 48 = .ok (.bipush 6, 2) := by decide +kernel
theorem dX5_init_50 : decode cX5_init 50 = .ok (.newarray .int, 2) := by decide +kernel
theorem dX5_init_52 : decode cX5_init 52 = .ok (.putfield 26, 3) := by decide +kernel
theorem dX5_init_55 : decode cX5_init 55 = .ok (.aload_n 0, 1) := by decide +kernel
theorem dX5_init_56 : decode cX5_init 56 = .ok (.bipush 6, 2) := by decide +kernel
theorem dX5_init_58 : decode cX5_init 58 = .ok (.newarray .int, 2) := by decide +kernel
theorem dX5_init_60 : decode cX5_init 60 = .ok (.putfield 29, 3) := by decide +kernel
theorem dX5_init_63 : decode cX5_init 63 = .ok (.aload_n 0, 1) := by decide +kernel
theorem dX5_init_64 : decode cX5_init 64 = .ok (.bipush 120, 2) := by decide +kernel
theorem dX5_init_66 : decode cX5_init 66 = .ok (.newarray .int, 2) := by decide +kernel
theorem dX5_init_68 : decode cX5_init 68 = .ok (.putfield 32, 3) := by decide +kernel
theorem dX5_init_71 : decode cX5_init 71 = .ok (.aload_n 0, 1) := by decide +kernel
theorem dX5_init_72 : decode cX5_init 72 = .ok (.bipush 10, 2) := by decide +kernel
theorem dX5_init_74 : decode cX5_init 74 = .ok (.newarray .int, 2) := by decide +kernel
theorem dX5_init_76 : decode cX5_init 76 = .ok (.putfield 35, 3) := by decide +kernel
theorem dX5_init_79 : decode cX5_init 79 = .ok (.iconst 0, 1) := by decide +kernel
theorem dX5_init_80 : decode cX5_init 80 = .ok (.istore_n 1, 1) := by decide +kernel
theorem dX5_init_81 : decode cX5_init 81 = .ok (.iload_n 1, 1) := by decide +kernel
theorem dX5_init_82 : decode cX5_init 82 = .ok (.bipush 64, 2) := by decide +kernel
theorem dX5_init_84 : decode cX5_init 84 = .ok (.if_icmp .ge 16, 3) := by decide +kernel
theorem dX5_init_87 : decode cX5_init 87 = .ok (.aload_n 0, 1) := by decide +kernel
theorem dX5_init_88 : decode cX5_init 88 = .ok (.getfield 7, 3) := by decide +kernel
theorem dX5_init_91 : decode cX5_init 91 = .ok (.iload_n 1, 1) := by decide +kernel
theorem dX5_init_92 : decode cX5_init 92 = .ok (.iload_n 1, 1) := by decide +kernel
theorem dX5_init_93 : decode cX5_init 93 = .ok (.iastore, 1) := by decide +kernel
theorem dX5_init_94 : decode cX5_init 94 = .ok (.iinc 1 1, 3) := by decide +kernel
theorem dX5_init_97 : decode cX5_init 97 = .ok (.goto (-16), 3) := by decide +kernel
theorem dX5_init_100 : decode cX5_init 100 = .ok (.iconst 0, 1) := by decide +kernel
theorem dX5_init_101 : decode cX5_init 101 = .ok (.istore_n 1, 1) := by decide +kernel
theorem dX5_init_102 : decode cX5_init 102 = .ok (.iload_n 1, 1) := by decide +kernel
theorem dX5_init_103 : decode cX5_init 103 = .ok (.iconst 4, 1) := by decide +kernel
theorem dX5_init_104 : decode cX5_init 104 = .ok (.if_icmp .ge 39, 3) := by decide +kernel
theorem dX5_init_107 : decode cX5_init 107 = .ok (.aload_n 0, 1) := by decide +kernel
theorem dX5_init_108 : decode cX5_init 108 = .ok (.getfield 7, 3) := by decide +kernel
theorem dX5_init_111 : decode cX5_init 111 = .ok (.bipush 64, 2) := by decide +kernel
theorem dX5_init_113 : decode cX5_init 113 = .ok (.bipush 7, 2) := by decide +kernel
theorem dX5_init_115 : decode cX5_init 115 = .ok (.iload_n 1, 1) := by decide +kernel
theorem dX5_init_116 : decode cX5_init 116 = .ok (.imul, 1) := by decide +kernel
theorem dX5_init_117 : decode cX5_init 117 = .ok (.iadd, 1) := by decide +kernel
theorem dX5_init_118 : decode cX5_init 118 = .ok (.iconst 0, 1) := by decide +kernel
theorem dX5_init_119 : decode cX5_init 119 = .ok (.iadd, 1) := by decide +kernel
theorem dX5_init_120 : decode cX5_init 120 = .ok (.iconst 1, 1) := by decide +kernel
theorem dX5_init_121 : decode cX5_init 121 = .ok (.iastore, 1) := by decide +kernel
theorem dX5_init_122 : decode cX5_init 122 = .ok (.aload_n 0, 1) := by decide +kernel
theorem dX5_init_123 : decode cX5_init 123 = .ok (.getfield 7, 3) := by decide +kernel
theorem dX5_init_126 : decode cX5_init 126 = .ok (.bipush 64, 2) := by decide +kernel
theorem dX5_init_128 : decode cX5_init 128 = .ok (.bipush 7, 2) := by decide +kernel
theorem dX5_init_130 : decode cX5_init 130 = .ok (.iload_n 1, 1) := by decide +kernel
theorem dX5_init_131 : decode cX5_init 131 = .ok (.imul, 1) := by decide +kernel
theorem dX5_init_132 : decode cX5_init 132 = .ok (.iadd, 1) := by decide +kernel
theorem dX5_init_133 : decode cX5_init 133 = .ok (.iconst 2, 1) := by decide +kernel
theorem dX5_init_134 : decode cX5_init 134 = .ok (.iadd, 1) := by decide +kernel
theorem dX5_init_135 : decode cX5_init 135 = .ok (.iconst 4, 1) := by decide +kernel
theorem dX5_init_136 : decode cX5_init 136 = .ok (.iastore, 1) := by decide +kernel
theorem dX5_init_137 : decode cX5_init 137 = .ok (.iinc 1 1, 3) := by decide +kernel
theorem dX5_init_140 : decode cX5_init 140 = .ok (.goto (-38), 3) := by decide +kernel
theorem dX5_init_143 : decode cX5_init 143 = .ok (.aload_n 0, 1) := by decide +kernel
theorem dX5_init_144 : decode cX5_init 144 = .ok (.getfield 7, 3) := by decide +kernel
theorem dX5_init_147 : decode cX5_init 147 = .ok (.sipush 453, 3) := by decide +kernel
theorem dX5_init_150 : decode cX5_init 150 = .ok (.iconst 3, 1) := by decide +kernel
theorem dX5_init_151 : decode cX5_init 151 = .ok (.iastore, 1) := by decide +kernel
theorem dX5_init_152 : decode cX5_init 152 = .ok (.return_, 1) := by decide +kernel
theorem dX5_type_0 : decode cX5_type 0 = .ok (.iload_n 1, 1) := by decide +kernel
theorem dX5_type_1 : decode cX5_type 1 = .ok (.iconst 0, 1) := by decide +kernel
theorem dX5_type_2 : decode cX5_type 2 = .ok (.sipush 255, 3) := by decide +kernel
theorem dX5_type_5 : decode cX5_type 5 = .ok (.invokestatic 38, 3) := by decide +kernel
theorem dX5_type_8 : decode cX5_type 8 = .ok (.ifCond .ne 5, 3) := by decide +kernel
theorem dX5_type_11 : decode cX5_type 11 = .ok (.iconst (-1), 1) := by decide +kernel
theorem dX5_type_12 : decode cX5_type 12 = .ok (.ireturn, 1) := by decide +kernel
theorem dX5_type_13 : decode cX5_type 13 = .ok (.aload_n 0, 1) := by decide +kernel
theorem dX5_type_14 : decode cX5_type 14 = .ok (.getfield 42, 3) := by decide +kernel
theorem dX5_type_17 : decode cX5_type 17 = .ok (.bipush 120, 2) := by decide +kernel
theorem dX5_type_19 : decode cX5_type 19 = .ok (.if_icmp .ne 6, 3) := by decide +kernel
theorem dX5_type_22 : decode cX5_type 22 = .ok (.bipush (-3), 2) := by decide +kernel
theorem dX5_type_24 : decode cX5_type 24 = .ok (.ireturn, 1) := by decide +kernel
theorem dX5_type_25 : decode cX5_type 25 = .ok (.aload_n 0, 1) := by decide +kernel
theorem dX5_type_26 : decode cX5_type 26 = .ok (.getfield 32, 3) := by decide +kernel
theorem dX5_type_29 : decode cX5_type 29 = .ok (.aload_n 0, 1) := by decide +kernel
theorem dX5_type_30 : decode cX5_type 30 = .ok (.getfield 42, 3) := by decide +kernel
theorem dX5_type_33 : decode cX5_type 33 = .ok (.iload_n 1, 1) := by decide +kernel
theorem dX5_type_34 : decode cX5_type 34 = .ok (.iastore, 1) := by decide +kernel
theorem dX5_type_35 : decode cX5_type 35 = .ok (.aload_n 0, 1) := by decide +kernel
theorem dX5_type_36 : decode cX5_type 36 = .ok (.dup, 1) := by decide +kernel
theorem dX5_type_37 : decode cX5_type 37 = .ok (.getfield 42, 3) := by decide +kernel
theorem dX5_type_40 : decode cX5_type 40 = .ok (.iconst 1, 1) := by decide +kernel
theorem dX5_type_41 : decode cX5_type 41 = .ok (.iadd, 1) := by decide +kernel
theorem dX5_type_42 : decode cX5_type 42 = .ok (.putfield 42, 3) := by decide +kernel
theorem dX5_type_45 : decode cX5_type 45 = .ok (.aload_n 0, 1) := by decide +kernel
theorem dX5_type_46 : decode cX5_type 46 = .ok (.getfield 42, 3) := by decide +kernel
theorem dX5_type_49 : decode cX5_type 49 = .ok (.ireturn, 1) := by decide +kernel
theorem dX5_clear_0 : decode cX5_clear 0 = .ok (.aload_n 0, 1) := by decide +kernel
theorem dX5_clear_1 : decode cX5_clear 1 = .ok (.getfield 42, 3) := by decide +kernel
theorem dX5_clear_4 : decode cX5_clear 4 = .ok (.istore_n 1, 1) := by decide +kernel
theorem dX5_clear_5 : decode cX5_clear 5 = .ok (.aload_n 0, 1) := by decide +kernel
theorem dX5_clear_6 : decode cX5_clear 6 = .ok (.iconst 0, 1) := by decide +kernel
theorem dX5_clear_7 : decode cX5_clear 7 = .ok (.putfield 42, 3) := by decide +kernel
theorem dX5_clear_10 : decode cX5_clear 10 = .ok (.iload_n 1, 1) := by decide +kernel
theorem dX5_clear_11 : decode cX5_clear 11 = .ok (.ireturn, 1) := by decide +kernel
theorem dX5_isFigure_0 : decode cX5_isFigure 0 = .ok (.iload_n 1, 1) := by decide +kernel
theorem dX5_isFigure_1 : decode cX5_isFigure 1 = .ok (.aload_n 0, 1) := by decide +kernel
theorem dX5_isFigure_2 : decode cX5_isFigure 2 = .ok (.getfield 42, 3) := by decide +kernel
theorem dX5_isFigure_5 : decode cX5_isFigure 5 = .ok (.if_icmp .ge 23, 3) := by decide +kernel
theorem dX5_isFigure_8 : decode cX5_isFigure 8 = .ok (.aload_n 0, 1) := by decide +kernel
theorem dX5_isFigure_9 : decode cX5_isFigure 9 = .ok (.getfield 32, 3) := by decide +kernel
theorem dX5_isFigure_12 : decode cX5_isFigure 12 = .ok (.iload_n 1, 1) := by decide +kernel
theorem dX5_isFigure_13 : decode cX5_isFigure 13 = .ok (.iaload, 1) := by decide +kernel
theorem dX5_isFigure_14 : decode cX5_isFigure 14 = .ok (.bipush 48, 2) := by decide +kernel
theorem dX5_isFigure_16 : decode cX5_isFigure 16 = .ok (.bipush 57, 2) := by decide +kernel
theorem dX5_isFigure_18 : decode cX5_isFigure 18 = .ok (.invokestatic 38, 3) := by decide +kernel
theorem dX5_isFigure_21 : decode cX5_isFigure 21 = .ok (.ifCond .eq 7, 3) := by decide +kernel
theorem dX5_isFigure_24 : decode cX5_isFigure 24 = .ok (.iconst 1, 1) := by decide +kernel
theorem dX5_isFigure_25 : decode cX5_isFigure 25 = .ok (.goto 4, 3) := by decide +kernel
theorem dX5_isFigure_28 : decode cX5_isFigure 28 = .ok (.iconst 0, 1) := by decide +kernel
theorem dX5_isFigure_29 : decode cX5_isFigure 29 = .ok (.ireturn, 1) := by decide +kernel
theorem dX5_takesNumber_0 : decode cX5_takesNumber 0 = .ok (.aload_n 0, 1) := by decide +kernel
theorem dX5_takesNumber_1 : decode cX5_takesNumber 1 = .ok (.getfield 32, 3) := by decide +kernel
theorem dX5_takesNumber_4 : decode cX5_takesNumber 4 = .ok (.aload_n 0, 1) := by decide +kernel
theorem dX5_takesNumber_5 : decode cX5_takesNumber 5 = .ok (.getfield 46, 3) := by decide +kernel
theorem dX5_takesNumber_8 : decode cX5_takesNumber 8 = .ok (.iaload, 1) := by decide +kernel
theorem dX5_takesNumber_9 : decode cX5_takesNumber 9 = .ok (.bipush 45, 2) := by decide +kernel
theorem dX5_takesNumber_11 : decode cX5_takesNumber 11 = .ok (.if_icmp .ne 7, 3) := by decide +kernel
theorem dX5_takesNumber_14 : decode cX5_takesNumber 14 = .ok (.iconst 1, 1) := by decide +kernel
theorem dX5_takesNumber_15 : decode cX5_takesNumber 15 = .ok (.goto 4, 3) := by decide +kernel
theorem dX5_takesNumber_18 : decode cX5_takesNumber 18 = .ok (.iconst 0, 1) := by decide +kernel
theorem dX5_takesNumber_19 : decode cX5_takesNumber 19 = .ok (.istore_n 1, 1) := by decide +kernel
theorem dX5_takesNumber_20 : decode cX5_takesNumber 20 = .ok (.aload_n 0, 1) := by decide +kernel
theorem dX5_takesNumber_21 : decode cX5_takesNumber 21 = .ok (.dup, 1) := by decide +kernel
theorem dX5_takesNumber_22 : decode cX5_takesNumber 22 = .ok (.getfield 46, 3) := by decide +kernel
theorem dX5_takesNumber_25 : decode cX5_takesNumber 25 = .ok (.iload_n 1, 1) := by decide +kernel
theorem dX5_takesNumber_26 : decode cX5_takesNumber 26 = .ok (.ifCond .eq 7, 3) := by decide +kernel
theorem dX5_takesNumber_29 : decode cX5_takesNumber 29 = .ok (.iconst 1, 1) := by decide +kernel
theorem dX5_takesNumber_30 : decode cX5_takesNumber 30 = .ok (.goto 4, 3) := by decide +kernel
theorem dX5_takesNumber_33 : decode cX5_takesNumber 33 = .ok (.iconst 0, 1) := by decide +kernel
theorem dX5_takesNumber_34 : decode cX5_takesNumber 34 = .ok (.iadd, 1) := by decide +kernel
theorem dX5_takesNumber_35 : decode cX5_takesNumber 35 = .ok (.putfield 46, 3) := by decide +kernel
theorem dX5_takesNumber_38 : decode cX5_takesNumber 38 = .ok (.aload_n 0, 1) := by decide +kernel
theorem dX5_takesNumber_39 : decode cX5_takesNumber 39 = .ok (.getfield 46, 3) := by decide +kernel
theorem dX5_takesNumber_42 : decode cX5_takesNumber 42 = .ok (.istore_n 2, 1) := by decide +kernel
theorem dX5_takesNumber_43 : decode cX5_takesNumber 43 = .ok (.iconst 0, 1) := by decide +kernel
theorem dX5_takesNumber_44 : decode cX5_takesNumber 44 = .ok (.istore_n 3, 1) := by decide +kernel
theorem dX5_takesNumber_45 : decode cX5_takesNumber 45 = .ok (.aload_n 0, 1) := by decide +kernel
theorem dX5_takesNumber_46 : decode cX5_takesNumber 46 = .ok (.aload_n 0, 1) := by decide +kernel
theorem dX5_takesNumber_47 : decode cX5_takesNumber 47 = .ok (.getfield 46, 3) := by decide +kernel
theorem dX5_takesNumber_50 : decode cX5_takesNumber 50 = .ok (.invokevirtual 49, 3) := by decide +kernel
theorem dX5_takesNumber_53 : decode cX5_takesNumber 53 = .ok (.ifCond .eq 45, 3) := by decide +kernel
theorem dX5_takesNumber_56 : decode cX5_takesNumber 56 = .ok (.iload_n 3, 1) := by decide +kernel
theorem dX5_takesNumber_57 : decode cX5_takesNumber 57 = .ok (.sipush 9999, 3) := by decide +kernel
theorem dX5_takesNumber_60 : decode cX5_takesNumber 60 = .ok (.if_icmp .le 7, 3) := by decide +kernel
theorem dX5_takesNumber_63 : decode cX5_takesNumber 63 = .ok (.iload_n 3, 1) := by decide +kernel
theorem dX5_takesNumber_64 : decode cX5_takesNumber 64 = .ok (.goto 20, 3) := by decide +kernel
theorem dX5_takesNumber_67 : decode cX5_takesNumber 67 = .ok (.bipush 10, 2) := by decide +kernel
theorem dX5_takesNumber_69 : decode cX5_takesNumber 69 = .ok (.iload_n 3, 1) := by decide +kernel
theorem dX5_takesNumber_70 : decode cX5_takesNumber 70 = .ok (.imul, 1) := by decide +kernel
theorem dX5_takesNumber_71 : decode cX5_takesNumber 71 = .ok (.aload_n 0, 1) := by decide +kernel
theorem dX5_takesNumber_72 : decode cX5_takesNumber 72 = .ok (.getfield 32, 3) := by decide +kernel
theorem dX5_takesNumber_75 : decode cX5_takesNumber 75 = .ok (.aload_n 0, 1) := by decide +kernel
theorem dX5_takesNumber_76 : decode cX5_takesNumber 76 = .ok (.getfield 46, 3) := by decide +kernel
theorem dX5_takesNumber_79 : decode cX5_takesNumber 79 = .ok (.iaload, 1) := by decide +kernel
theorem dX5_takesNumber_80 : decode cX5_takesNumber 80 = .ok (.iadd, 1) := by decide +kernel
theorem dX5_takesNumber_81 : decode cX5_takesNumber 81 = .ok (.bipush 48, 2) := by decide +kernel
theorem dX5_takesNumber_83 : decode cX5_takesNumber 83 = .ok (.isub, 1) := by decide +kernel
theorem dX5_takesNumber_84 : decode cX5_takesNumber 84 = .ok (.istore_n 3, 1) := by decide +kernel
theorem dX5_takesNumber_85 : decode cX5_takesNumber 85 = .ok (.aload_n 0, 1) := by decide +kernel
theorem dX5_takesNumber_86 : decode cX5_takesNumber 86 = .ok (.dup, 1) := by decide +kernel
theorem dX5_takesNumber_87 : decode cX5_takesNumber 87 = .ok (.getfield 46, 3) := by decide +kernel
theorem dX5_takesNumber_90 : decode cX5_takesNumber 90 = .ok (.iconst 1, 1) := by decide +kernel
theorem dX5_takesNumber_91 : decode cX5_takesNumber 91 = .ok (.iadd, 1) := by decide +kernel
theorem dX5_takesNumber_92 : decode cX5_takesNumber 92 = .ok (.putfield 46, 3) := by decide +kernel
theorem dX5_takesNumber_95 : decode cX5_takesNumber 95 = .ok (.goto (-50), 3) := by decide +kernel
theorem dX5_takesNumber_98 : decode cX5_takesNumber 98 = .ok (.aload_n 0, 1) := by decide +kernel
theorem dX5_takesNumber_99 : decode cX5_takesNumber 99 = .ok (.getfield 46, 3) := by decide +kernel
theorem dX5_takesNumber_102 : decode cX5_takesNumber 102 = .ok (.iload_n 2, 1) := by decide +kernel
theorem dX5_takesNumber_103 : decode cX5_takesNumber 103 = .ok (.isub, 1) := by decide +kernel
theorem dX5_takesNumber_104 : decode cX5_takesNumber 104 = .ok (.istore 4, 2) := by decide +kernel
theorem dX5_takesNumber_106 : decode cX5_takesNumber 106 = .ok (.iload 4, 2) := by decide +kernel
theorem dX5_takesNumber_108 : decode cX5_takesNumber 108 = .ok (.iconst 1, 1) := by decide +kernel
theorem dX5_takesNumber_109 : decode cX5_takesNumber 109 = .ok (.iconst 3, 1) := by decide +kernel
theorem dX5_takesNumber_110 : decode cX5_takesNumber 110 = .ok (.invokestatic 38, 3) := by decide +kernel
theorem dX5_takesNumber_113 : decode cX5_takesNumber 113 = .ok (.ifCond .eq 28, 3) := by decide +kernel
theorem dX5_takesNumber_116 : decode cX5_takesNumber 116 = .ok (.aload_n 0, 1) := by decide +kernel
theorem dX5_takesNumber_117 : decode cX5_takesNumber 117 = .ok (.getfield 32, 3) := by decide +kernel
theorem dX5_takesNumber_120 : decode cX5_takesNumber 120 = .ok (.iload_n 2, 1) := by decide +kernel
theorem dX5_takesNumber_121 : decode cX5_takesNumber 121 = .ok (.iaload, 1) := by decide +kernel
theorem dX5_takesNumber_122 : decode cX5_takesNumber 122 = .ok (.bipush 48, 2) := by decide +kernel
theorem dX5_takesNumber_124 : decode cX5_takesNumber 124 = .ok (.if_icmp .ne 13, 3) := by decide +kernel
theorem dX5_takesNumber_127 : decode cX5_takesNumber 127 = .ok (.iload 4, 2) := by decide +kernel
theorem dX5_takesNumber_129 : decode cX5_takesNumber 129 = .ok (.iconst 1, 1) := by decide +kernel
theorem dX5_takesNumber_130 : decode cX5_takesNumber 130 = .ok (.if_icmp .ne 11, 3) := by decide +kernel
theorem dX5_takesNumber_133 : decode cX5_takesNumber 133 = .ok (.iload_n 1, 1) := by decide +kernel
theorem dX5_takesNumber_134 : decode cX5_takesNumber 134 = .ok (.ifCond .ne 7, 3) := by decide +kernel
theorem dX5_takesNumber_137 : decode cX5_takesNumber 137 = .ok (.iconst 1, 1) := by decide +kernel
theorem dX5_takesNumber_138 : decode cX5_takesNumber 138 = .ok (.goto 4, 3) := by decide +kernel
theorem dX5_takesNumber_141 : decode cX5_takesNumber 141 = .ok (.iconst 0, 1) := by decide +kernel
theorem dX5_takesNumber_142 : decode cX5_takesNumber 142 = .ok (.istore 5, 2) := by decide +kernel
theorem dX5_takesNumber_144 : decode cX5_takesNumber 144 = .ok (.aload_n 0, 1) := by decide +kernel
theorem dX5_takesNumber_145 : decode cX5_takesNumber 145 = .ok (.iload 5, 2) := by decide +kernel
theorem dX5_takesNumber_147 : decode cX5_takesNumber 147 = .ok (.ifCond .eq 9, 3) := by decide +kernel
theorem dX5_takesNumber_150 : decode cX5_takesNumber 150 = .ok (.sipush 1000, 3) := by decide +kernel
theorem dX5_takesNumber_153 : decode cX5_takesNumber 153 = .ok (.goto 6, 3) := by decide +kernel
theorem dX5_takesNumber_156 : decode cX5_takesNumber 156 = .ok (.sipush 1001, 3) := by decide +kernel
theorem dX5_takesNumber_159 : decode cX5_takesNumber 159 = .ok (.putfield 53, 3) := by decide +kernel
theorem dX5_takesNumber_162 : decode cX5_takesNumber 162 = .ok (.aload_n 0, 1) := by decide +kernel
theorem dX5_takesNumber_163 : decode cX5_takesNumber 163 = .ok (.iload_n 1, 1) := by decide +kernel
theorem dX5_takesNumber_164 : decode cX5_takesNumber 164 = .ok (.ifCond .eq 8, 3) := by decide +kernel
theorem dX5_takesNumber_167 : decode cX5_takesNumber 167 = .ok (.iload_n 3, 1) := by decide +kernel
theorem dX5_takesNumber_168 : decode cX5_takesNumber 168 = .ok (.ineg, 1) := by decide +kernel
theorem dX5_takesNumber_169 : decode cX5_takesNumber 169 = .ok (.goto 4, 3) := by decide +kernel
theorem dX5_takesNumber_172 : decode cX5_takesNumber 172 = .ok (.iload_n 3, 1) := by decide +kernel
theorem dX5_takesNumber_173 : decode cX5_takesNumber 173 = .ok (.putfield 56, 3) := by decide +kernel
theorem dX5_takesNumber_176 : decode cX5_takesNumber 176 = .ok (.return_, 1) := by decide +kernel
theorem dX5_takes_0 : decode cX5_takes 0 = .ok (.aload_n 0, 1) := by decide +kernel
theorem dX5_takes_1 : decode cX5_takes 1 = .ok (.getfield 46, 3) := by decide +kernel
theorem dX5_takes_4 : decode cX5_takes 4 = .ok (.aload_n 0, 1) := by decide +kernel
theorem dX5_takes_5 : decode cX5_takes 5 = .ok (.getfield 42, 3) := by decide +kernel
theorem dX5_takes_8 : decode cX5_takes 8 = .ok (.if_icmp .ge 30, 3) := by decide +kernel
theorem dX5_takes_11 : decode cX5_takes 11 = .ok (.aload_n 0, 1) := by decide +kernel
theorem dX5_takes_12 : decode cX5_takes 12 = .ok (.getfield 32, 3) := by decide +kernel
theorem dX5_takes_15 : decode cX5_takes 15 = .ok (.aload_n 0, 1) := by decide +kernel
theorem dX5_takes_16 : decode cX5_takes 16 = .ok (.getfield 46, 3) := by decide +kernel
theorem dX5_takes_19 : decode cX5_takes 19 = .ok (.iaload, 1) := by decide +kernel
theorem dX5_takes_20 : decode cX5_takes 20 = .ok (.bipush 32, 2) := by decide +kernel
theorem dX5_takes_22 : decode cX5_takes 22 = .ok (.if_icmp .ne 16, 3) := by decide +kernel
theorem dX5_takes_25 : decode cX5_takes 25 = .ok (.aload_n 0, 1) := by decide +kernel
theorem dX5_takes_26 : decode cX5_takes 26 = .ok (.dup, 1) := by decide +kernel
theorem dX5_takes_27 : decode cX5_takes 27 = .ok (.getfield 46, 3) := by decide +kernel
theorem dX5_takes_30 : decode cX5_takes 30 = .ok (.iconst 1, 1) := by decide +kernel
theorem dX5_takes_31 : decode cX5_takes 31 = .ok (.iadd, 1) := by decide +kernel
theorem dX5_takes_32 : decode cX5_takes 32 = .ok (.putfield 46, 3) := by decide +kernel
theorem dX5_takes_35 : decode cX5_takes 35 = .ok (.goto (-35), 3) := by decide +kernel
theorem dX5_takes_38 : decode cX5_takes 38 = .ok (.aload_n 0, 1) := by decide +kernel
theorem dX5_takes_39 : decode cX5_takes 39 = .ok (.aload_n 0, 1) := by decide +kernel
theorem dX5_takes_40 : decode cX5_takes 40 = .ok (.getfield 46, 3) := by decide +kernel
theorem dX5_takes_43 : decode cX5_takes 43 = .ok (.putfield 59, 3) := by decide +kernel
theorem dX5_takes_46 : decode cX5_takes 46 = .ok (.aload_n 0, 1) := by decide +kernel
theorem dX5_takes_47 : decode cX5_takes 47 = .ok (.getfield 46, 3) := by decide +kernel
theorem dX5_takes_50 : decode cX5_takes 50 = .ok (.aload_n 0, 1) := by decide +kernel
theorem dX5_takes_51 : decode cX5_takes 51 = .ok (.getfield 42, 3) := by decide +kernel
theorem dX5_takes_54 : decode cX5_takes 54 = .ok (.if_icmp .ne 11, 3) := by decide +kernel
theorem dX5_takes_57 : decode cX5_takes 57 = .ok (.aload_n 0, 1) := by decide +kernel
theorem dX5_takes_58 : decode cX5_takes 58 = .ok (.iconst (-1), 1) := by decide +kernel
theorem dX5_takes_59 : decode cX5_takes 59 = .ok (.putfield 53, 3) := by decide +kernel
theorem dX5_takes_62 : decode cX5_takes 62 = .ok (.goto 58, 3) := by decide +kernel
theorem dX5_takes_65 : decode cX5_takes 65 = .ok (.aload_n 0, 1) := by decide +kernel
theorem dX5_takes_66 : decode cX5_takes 66 = .ok (.aload_n 0, 1) := by decide +kernel
theorem dX5_takes_67 : decode cX5_takes 67 = .ok (.getfield 46, 3) := by decide +kernel
theorem dX5_takes_70 : decode cX5_takes 70 = .ok (.invokevirtual 49, 3) := by decide +kernel
theorem dX5_takes_73 : decode cX5_takes 73 = .ok (.ifCond .ne 17, 3) := by decide +kernel
theorem dX5_takes_76 : decode cX5_takes 76 = .ok (.aload_n 0, 1) := by decide +kernel
theorem dX5_takes_77 : decode cX5_takes 77 = .ok (.getfield 32, 3) := by decide +kernel
theorem dX5_takes_80 : decode cX5_takes 80 = .ok (.aload_n 0, 1) := by decide +kernel
theorem dX5_takes_81 : decode cX5_takes 81 = .ok (.getfield 46, 3) := by decide +kernel
theorem dX5_takes_84 : decode cX5_takes 84 = .ok (.iaload, 1) := by decide +kernel
theorem dX5_takes_85 : decode cX5_takes 85 = .ok (.bipush 45, 2) := by decide +kernel
theorem dX5_takes_87 : decode cX5_takes 87 = .ok (.if_icmp .ne 10, 3) := by decide +kernel
theorem dX5_takes_90 : decode cX5_takes 90 = .ok (.aload_n 0, 1) := by decide +kernel
theorem dX5_takes_91 : decode cX5_takes 91 = .ok (.invokevirtual 62, 3) := by decide +kernel
theorem dX5_takes_94 : decode cX5_takes 94 = .ok (.goto 26, 3) := by decide +kernel
theorem dX5_takes_97 : decode cX5_takes 97 = .ok (.aload_n 0, 1) := by decide +kernel
theorem dX5_takes_98 : decode cX5_takes 98 = .ok (.aload_n 0, 1) := by decide +kernel
theorem dX5_takes_99 : decode cX5_takes 99 = .ok (.getfield 32, 3) := by decide +kernel
theorem dX5_takes_102 : decode cX5_takes 102 = .ok (.aload_n 0, 1) := by decide +kernel
theorem dX5_takes_103 : decode cX5_takes 103 = .ok (.getfield 46, 3) := by decide +kernel
theorem dX5_takes_106 : decode cX5_takes 106 = .ok (.iaload, 1) := by decide +kernel
theorem dX5_takes_107 : decode cX5_takes 107 = .ok (.putfield 53, 3) := by decide +kernel
theorem dX5_takes_110 : decode cX5_takes 110 = .ok (.aload_n 0, 1) := by decide +kernel
theorem dX5_takes_111 : decode cX5_takes 111 = .ok (.dup, 1) := by decide +kernel
theorem dX5_takes_112 : decode cX5_takes 112 = .ok (.getfield 46, 3) := by decide +kernel
theorem dX5_takes_115 : decode cX5_takes 115 = .ok (.iconst 1, 1) := by decide +kernel
theorem dX5_takes_116 : decode cX5_takes 116 = .ok (.iadd, 1) := by decide +kernel
theorem dX5_takes_117 : decode cX5_takes 117 = .ok (.putfield 46, 3) := by decide +kernel
theorem dX5_takes_120 : decode cX5_takes 120 = .ok (.return_, 1) := by decide +kernel
theorem dX5_reads_0 : decode cX5_reads 0 = .ok (.aload_n 0, 1) := by decide +kernel
theorem dX5_reads_1 : decode cX5_reads 1 = .ok (.getfield 53, 3) := by decide +kernel
theorem dX5_reads_4 : decode cX5_reads 4 = .ok (.sipush 1000, 3) := by decide +kernel
theorem dX5_reads_7 : decode cX5_reads 7 = .ok (.if_icmp .ne 15, 3) := by decide +kernel
theorem dX5_reads_10 : decode cX5_reads 10 = .ok (.aload_n 0, 1) := by decide +kernel
theorem dX5_reads_11 : decode cX5_reads 11 = .ok (.getfield 56, 3) := by decide +kernel
theorem dX5_reads_14 : decode cX5_reads 14 = .ok (.iload_n 2, 1) := by decide +kernel
theorem dX5_reads_15 : decode cX5_reads 15 = .ok (.iload_n 3, 1) := by decide +kernel
theorem dX5_reads_16 : decode cX5_reads 16 = .ok (.invokestatic 38, 3) := by decide +kernel
theorem dX5_reads_19 : decode cX5_reads 19 = .ok (.ifCond .ne 5, 3) := by decide +kernel
theorem dX5_reads_22 : decode cX5_reads 22 = .ok (.iconst 0, 1) := by decide +kernel
theorem dX5_reads_23 : decode cX5_reads 23 = .ok (.ireturn, 1) := by decide +kernel
theorem dX5_reads_24 : decode cX5_reads 24 = .ok (.aload_n 0, 1) := by decide +kernel
theorem dX5_reads_25 : decode cX5_reads 25 = .ok (.getfield 35, 3) := by decide +kernel
theorem dX5_reads_28 : decode cX5_reads 28 = .ok (.iload_n 1, 1) := by decide +kernel
theorem dX5_reads_29 : decode cX5_reads 29 = .ok (.aload_n 0, 1) := by decide +kernel
theorem dX5_reads_30 : decode cX5_reads 30 = .ok (.getfield 56, 3) := by decide +kernel
theorem dX5_reads_33 : decode cX5_reads 33 = .ok (.iastore, 1) := by decide +kernel
theorem dX5_reads_34 : decode cX5_reads 34 = .ok (.aload_n 0, 1) := by decide +kernel
theorem dX5_reads_35 : decode cX5_reads 35 = .ok (.invokevirtual 65, 3) := by decide +kernel
theorem dX5_reads_38 : decode cX5_reads 38 = .ok (.iconst 1, 1) := by decide +kernel
theorem dX5_reads_39 : decode cX5_reads 39 = .ok (.ireturn, 1) := by decide +kernel
theorem dX5_readsLetter_0 : decode cX5_readsLetter 0 = .ok (.aload_n 0, 1) := by decide +kernel
theorem dX5_readsLetter_1 : decode cX5_readsLetter 1 = .ok (.iconst 0, 1) := by decide +kernel
theorem dX5_readsLetter_2 : decode cX5_readsLetter 2 = .ok (.iconst 0, 1) := by decide +kernel
theorem dX5_readsLetter_3 : decode cX5_readsLetter 3 = .ok (.iconst 3, 1) := by decide +kernel
theorem dX5_readsLetter_4 : decode cX5_readsLetter 4 = .ok (.invokevirtual 68, 3) := by decide +kernel
theorem dX5_readsLetter_7 : decode cX5_readsLetter 7 = .ok (.ifCond .eq 40, 3) := by decide +kernel
theorem dX5_readsLetter_10 : decode cX5_readsLetter 10 = .ok (.aload_n 0, 1) := by decide +kernel
theorem dX5_readsLetter_11 : decode cX5_readsLetter 11 = .ok (.iconst 1, 1) := by decide +kernel
theorem dX5_readsLetter_12 : decode cX5_readsLetter 12 = .ok (.iconst 0, 1) := by decide +kernel
theorem dX5_readsLetter_13 : decode cX5_readsLetter 13 = .ok (.bipush 63, 2) := by decide +kernel
theorem dX5_readsLetter_15 : decode cX5_readsLetter 15 = .ok (.invokevirtual 68, 3) := by decide +kernel
theorem dX5_readsLetter_18 : decode cX5_readsLetter 18 = .ok (.ifCond .eq 29, 3) := by decide +kernel
theorem dX5_readsLetter_21 : decode cX5_readsLetter 21 = .ok (.aload_n 0, 1) := by decide +kernel
theorem dX5_readsLetter_22 : decode cX5_readsLetter 22 = .ok (.iconst 2, 1) := by decide +kernel
theorem dX5_readsLetter_23 : decode cX5_readsLetter 23 = .ok (.iconst 0, 1) := by decide +kernel
theorem dX5_readsLetter_24 : decode cX5_readsLetter 24 = .ok (.bipush 63, 2) := by decide +kernel
theorem dX5_readsLetter_26 : decode cX5_readsLetter 26 = .ok (.invokevirtual 68, 3) := by decide +kernel
theorem dX5_readsLetter_29 : decode cX5_readsLetter 29 = .ok (.ifCond .eq 18, 3) := by decide +kernel
theorem dX5_readsLetter_32 : decode cX5_readsLetter 32 = .ok (.aload_n 0, 1) := by decide +kernel
theorem dX5_readsLetter_33 : decode cX5_readsLetter 33 = .ok (.iconst 3, 1) := by decide +kernel
theorem dX5_readsLetter_34 : decode cX5_readsLetter 34 = .ok (.iconst 1, 1) := by decide +kernel
theorem dX5_readsLetter_35 : decode cX5_readsLetter 35 = .ok (.bipush 16, 2) := by decide +kernel
theorem dX5_readsLetter_37 : decode cX5_readsLetter 37 = .ok (.invokevirtual 68, 3) := by decide +kernel
theorem dX5_readsLetter_40 : decode cX5_readsLetter 40 = .ok (.ifCond .eq 7, 3) := by decide +kernel
theorem dX5_readsLetter_43 : decode cX5_readsLetter 43 = .ok (.iconst 1, 1) := by decide +kernel
theorem dX5_readsLetter_44 : decode cX5_readsLetter 44 = .ok (.goto 4, 3) := by decide +kernel
theorem dX5_readsLetter_47 : decode cX5_readsLetter 47 = .ok (.iconst 0, 1) := by decide +kernel
theorem dX5_readsLetter_48 : decode cX5_readsLetter 48 = .ok (.istore_n 1, 1) := by decide +kernel
theorem dX5_readsLetter_49 : decode cX5_readsLetter 49 = .ok (.iload_n 1, 1) := by decide +kernel
theorem dX5_readsLetter_50 : decode cX5_readsLetter 50 = .ok (.ifCond .eq 42, 3) := by decide +kernel
theorem dX5_readsLetter_53 : decode cX5_readsLetter 53 = .ok (.aload_n 0, 1) := by decide +kernel
theorem dX5_readsLetter_54 : decode cX5_readsLetter 54 = .ok (.iconst 4, 1) := by decide +kernel
theorem dX5_readsLetter_55 : decode cX5_readsLetter 55 = .ok (.bipush (-9), 2) := by decide +kernel
theorem dX5_readsLetter_57 : decode cX5_readsLetter 57 = .ok (.bipush 9, 2) := by decide +kernel
theorem dX5_readsLetter_59 : decode cX5_readsLetter 59 = .ok (.invokevirtual 68, 3) := by decide +kernel
theorem dX5_readsLetter_62 : decode cX5_readsLetter 62 = .ok (.ifCond .eq 30, 3) := by decide +kernel
theorem dX5_readsLetter_65 : decode cX5_readsLetter 65 = .ok (.aload_n 0, 1) := by decide +kernel
theorem dX5_readsLetter_66 : decode cX5_readsLetter 66 = .ok (.iconst 5, 1) := by decide +kernel
theorem dX5_readsLetter_67 : decode cX5_readsLetter 67 = .ok (.bipush (-9), 2) := by decide +kernel
theorem dX5_readsLetter_69 : decode cX5_readsLetter 69 = .ok (.bipush 9, 2) := by decide +kernel
theorem dX5_readsLetter_71 : decode cX5_readsLetter 71 = .ok (.invokevirtual 68, 3) := by decide +kernel
theorem dX5_readsLetter_74 : decode cX5_readsLetter 74 = .ok (.ifCond .eq 18, 3) := by decide +kernel
theorem dX5_readsLetter_77 : decode cX5_readsLetter 77 = .ok (.aload_n 0, 1) := by decide +kernel
theorem dX5_readsLetter_78 : decode cX5_readsLetter 78 = .ok (.bipush 6, 2) := by decide +kernel
theorem dX5_readsLetter_80 : decode cX5_readsLetter 80 = .ok (.iconst 1, 1) := by decide +kernel
theorem dX5_readsLetter_81 : decode cX5_readsLetter 81 = .ok (.iconst 4, 1) := by decide +kernel
theorem dX5_readsLetter_82 : decode cX5_readsLetter 82 = .ok (.invokevirtual 68, 3) := by decide +kernel
theorem dX5_readsLetter_85 : decode cX5_readsLetter 85 = .ok (.ifCond .eq 7, 3) := by decide +kernel
theorem dX5_readsLetter_88 : decode cX5_readsLetter 88 = .ok (.iconst 1, 1) := by decide +kernel
theorem dX5_readsLetter_89 : decode cX5_readsLetter 89 = .ok (.goto 4, 3) := by decide +kernel
theorem dX5_readsLetter_92 : decode cX5_readsLetter 92 = .ok (.iconst 0, 1) := by decide +kernel
theorem dX5_readsLetter_93 : decode cX5_readsLetter 93 = .ok (.istore_n 1, 1) := by decide +kernel
theorem dX5_readsLetter_94 : decode cX5_readsLetter 94 = .ok (.iload_n 1, 1) := by decide +kernel
theorem dX5_readsLetter_95 : decode cX5_readsLetter 95 = .ok (.ifCond .eq 44, 3) := by decide +kernel
theorem dX5_readsLetter_98 : decode cX5_readsLetter 98 = .ok (.aload_n 0, 1) := by decide +kernel
theorem dX5_readsLetter_99 : decode cX5_readsLetter 99 = .ok (.bipush 7, 2) := by decide +kernel
theorem dX5_readsLetter_101 : decode cX5_readsLetter 101 = .ok (.bipush (-20), 2) := by decide +kernel
theorem dX5_readsLetter_103 : decode cX5_readsLetter 103 = .ok (.bipush 20, 2) := by decide +kernel
theorem dX5_readsLetter_105 : decode cX5_readsLetter 105 = .ok (.invokevirtual 68, 3) := by decide +kernel
theorem dX5_readsLetter_108 : decode cX5_readsLetter 108 = .ok (.ifCond .eq 31, 3) := by decide +kernel
theorem dX5_readsLetter_111 : decode cX5_readsLetter 111 = .ok (.aload_n 0, 1) := by decide +kernel
theorem dX5_readsLetter_112 : decode cX5_readsLetter 112 = .ok (.bipush 8, 2) := by decide +kernel
theorem dX5_readsLetter_114 : decode cX5_readsLetter 114 = .ok (.bipush (-20), 2) := by decide +kernel
theorem dX5_readsLetter_116 : decode cX5_readsLetter 116 = .ok (.bipush 20, 2) := by decide +kernel
theorem dX5_readsLetter_118 : decode cX5_readsLetter 118 = .ok (.invokevirtual 68, 3) := by decide +kernel
theorem dX5_readsLetter_121 : decode cX5_readsLetter 121 = .ok (.ifCond .eq 18, 3) := by decide +kernel
theorem dX5_readsLetter_124 : decode cX5_readsLetter 124 = .ok (.aload_n 0, 1) := by decide +kernel
theorem dX5_readsLetter_125 : decode cX5_readsLetter 125 = .ok (.bipush 9, 2) := by decide +kernel
theorem dX5_readsLetter_127 : decode cX5_readsLetter 127 = .ok (.iconst 0, 1) := by decide +kernel
theorem dX5_readsLetter_128 : decode cX5_readsLetter 128 = .ok (.iconst 1, 1) := by decide +kernel
theorem dX5_readsLetter_129 : decode cX5_readsLetter 129 = .ok (.invokevirtual 68, 3) := by decide +kernel
theorem dX5_readsLetter_132 : decode cX5_readsLetter 132 = .ok (.ifCond .eq 7, 3) := by decide +kernel
theorem dX5_readsLetter_135 : decode cX5_readsLetter 135 = .ok (.iconst 1, 1) := by decide +kernel
theorem dX5_readsLetter_136 : decode cX5_readsLetter 136 = .ok (.goto 4, 3) := by decide +kernel
theorem dX5_readsLetter_139 : decode cX5_readsLetter 139 = .ok (.iconst 0, 1) := by decide +kernel
theorem dX5_readsLetter_140 : decode cX5_readsLetter 140 = .ok (.ireturn, 1) := by decide +kernel
theorem dX5_readsItem_0 : decode cX5_readsItem 0 = .ok (.aload_n 0, 1) := by decide +kernel
theorem dX5_readsItem_1 : decode cX5_readsItem 1 = .ok (.invokevirtual 65, 3) := by decide +kernel
theorem dX5_readsItem_4 : decode cX5_readsItem 4 = .ok (.iconst 0, 1) := by decide +kernel
theorem dX5_readsItem_5 : decode cX5_readsItem 5 = .ok (.istore_n 2, 1) := by decide +kernel
theorem dX5_readsItem_6 : decode cX5_readsItem 6 = .ok (.iload_n 1, 1) := by decide +kernel
theorem dX5_readsItem_7 : decode cX5_readsItem 7 = .ok (.bipush 108, 2) := by decide +kernel
theorem dX5_readsItem_9 : decode cX5_readsItem 9 = .ok (.if_icmp .ne 11, 3) := by decide +kernel
theorem dX5_readsItem_12 : decode cX5_readsItem 12 = .ok (.aload_n 0, 1) := by decide +kernel
theorem dX5_readsItem_13 : decode cX5_readsItem 13 = .ok (.invokevirtual 71, 3) := by decide +kernel
theorem dX5_readsItem_16 : decode cX5_readsItem 16 = .ok (.istore_n 2, 1) := by decide +kernel
theorem dX5_readsItem_17 : decode cX5_readsItem 17 = .ok (.goto 78, 3) := by decide +kernel
theorem dX5_readsItem_20 : decode cX5_readsItem 20 = .ok (.iload_n 1, 1) := by decide +kernel
theorem dX5_readsItem_21 : decode cX5_readsItem 21 = .ok (.bipush 102, 2) := by decide +kernel
theorem dX5_readsItem_23 : decode cX5_readsItem 23 = .ok (.if_icmp .ne 35, 3) := by decide +kernel
theorem dX5_readsItem_26 : decode cX5_readsItem 26 = .ok (.aload_n 0, 1) := by decide +kernel
theorem dX5_readsItem_27 : decode cX5_readsItem 27 = .ok (.iconst 0, 1) := by decide +kernel
theorem dX5_readsItem_28 : decode cX5_readsItem 28 = .ok (.iconst 0, 1) := by decide +kernel
theorem dX5_readsItem_29 : decode cX5_readsItem 29 = .ok (.bipush 63, 2) := by decide +kernel
theorem dX5_readsItem_31 : decode cX5_readsItem 31 = .ok (.invokevirtual 68, 3) := by decide +kernel
theorem dX5_readsItem_34 : decode cX5_readsItem 34 = .ok (.ifCond .eq 19, 3) := by decide +kernel
theorem dX5_readsItem_37 : decode cX5_readsItem 37 = .ok (.aload_n 0, 1) := by decide +kernel
theorem dX5_readsItem_38 : decode cX5_readsItem 38 = .ok (.iconst 1, 1) := by decide +kernel
theorem dX5_readsItem_39 : decode cX5_readsItem 39 = .ok (.iconst 0, 1) := by decide +kernel
theorem dX5_readsItem_40 : decode cX5_readsItem 40 = .ok (.sipush 255, 3) := by decide +kernel
theorem dX5_readsItem_43 : decode cX5_readsItem 43 = .ok (.invokevirtual 68, 3) := by decide +kernel
theorem dX5_readsItem_46 : decode cX5_readsItem 46 = .ok (.ifCond .eq 7, 3) := by decide +kernel
theorem dX5_readsItem_49 : decode cX5_readsItem 49 = .ok (.iconst 1, 1) := by decide +kernel
theorem dX5_readsItem_50 : decode cX5_readsItem 50 = .ok (.goto 4, 3) := by decide +kernel
theorem dX5_readsItem_53 : decode cX5_readsItem 53 = .ok (.iconst 0, 1) := by decide +kernel
theorem dX5_readsItem_54 : decode cX5_readsItem 54 = .ok (.istore_n 2, 1) := by decide +kernel
theorem dX5_readsItem_55 : decode cX5_readsItem 55 = .ok (.goto 40, 3) := by decide +kernel
theorem dX5_readsItem_58 : decode cX5_readsItem 58 = .ok (.aload_n 0, 1) := by decide +kernel
theorem dX5_readsItem_59 : decode cX5_readsItem 59 = .ok (.iconst 0, 1) := by decide +kernel
theorem dX5_readsItem_60 : decode cX5_readsItem 60 = .ok (.iconst 0, 1) := by decide +kernel
theorem dX5_readsItem_61 : decode cX5_readsItem 61 = .ok (.iconst 3, 1) := by decide +kernel
theorem dX5_readsItem_62 : decode cX5_readsItem 62 = .ok (.invokevirtual 68, 3) := by decide +kernel
theorem dX5_readsItem_65 : decode cX5_readsItem 65 = .ok (.ifCond .eq 28, 3) := by decide +kernel
theorem dX5_readsItem_68 : decode cX5_readsItem 68 = .ok (.aload_n 0, 1) := by decide +kernel
theorem dX5_readsItem_69 : decode cX5_readsItem 69 = .ok (.iconst 1, 1) := by decide +kernel
theorem dX5_readsItem_70 : decode cX5_readsItem 70 = .ok (.iconst 0, 1) := by decide +kernel
theorem dX5_readsItem_71 : decode cX5_readsItem 71 = .ok (.iconst 3, 1) := by decide +kernel
theorem dX5_readsItem_72 : decode cX5_readsItem 72 = .ok (.invokevirtual 68, 3) := by decide +kernel
theorem dX5_readsItem_75 : decode cX5_readsItem 75 = .ok (.ifCond .eq 18, 3) := by decide +kernel
theorem dX5_readsItem_78 : decode cX5_readsItem 78 = .ok (.aload_n 0, 1) := by decide +kernel
theorem dX5_readsItem_79 : decode cX5_readsItem 79 = .ok (.iconst 2, 1) := by decide +kernel
theorem dX5_readsItem_80 : decode cX5_readsItem 80 = .ok (.iconst 1, 1) := by decide +kernel
theorem dX5_readsItem_81 : decode cX5_readsItem 81 = .ok (.bipush 8, 2) := by decide +kernel
theorem dX5_readsItem_83 : decode cX5_readsItem 83 = .ok (.invokevirtual 68, 3) := by decide +kernel
theorem dX5_readsItem_86 : decode cX5_readsItem 86 = .ok (.ifCond .eq 7, 3) := by decide +kernel
theorem dX5_readsItem_89 : decode cX5_readsItem 89 = .ok (.iconst 1, 1) := by decide +kernel
theorem dX5_readsItem_90 : decode cX5_readsItem 90 = .ok (.goto 4, 3) := by decide +kernel
theorem dX5_readsItem_93 : decode cX5_readsItem 93 = .ok (.iconst 0, 1) := by decide +kernel
theorem dX5_readsItem_94 : decode cX5_readsItem 94 = .ok (.istore_n 2, 1) := by decide +kernel
theorem dX5_readsItem_95 : decode cX5_readsItem 95 = .ok (.iload_n 2, 1) := by decide +kernel
theorem dX5_readsItem_96 : decode cX5_readsItem 96 = .ok (.ifCond .eq 16, 3) := by decide +kernel
theorem dX5_readsItem_99 : decode cX5_readsItem 99 = .ok (.aload_n 0, 1) := by decide +kernel
theorem dX5_readsItem_100 : decode cX5_readsItem 100 = .ok (.getfield 53, 3) := by decide +kernel
theorem dX5_readsItem_103 : decode cX5_readsItem 103 = .ok (.bipush 59, 2) := by decide +kernel
theorem dX5_readsItem_105 : decode cX5_readsItem 105 = .ok (.if_icmp .ne 7, 3) := by decide +kernel
theorem dX5_readsItem_108 : decode cX5_readsItem 108 = .ok (.iconst 1, 1) := by decide +kernel
theorem dX5_readsItem_109 : decode cX5_readsItem 109 = .ok (.goto 4, 3) := by decide +kernel
theorem dX5_readsItem_112 : decode cX5_readsItem 112 = .ok (.iconst 0, 1) := by decide +kernel
theorem dX5_readsItem_113 : decode cX5_readsItem 113 = .ok (.ireturn, 1) := by decide +kernel
theorem dX5_slotAt_0 : decode cX5_slotAt 0 = .ok (.bipush 92, 2) := by decide +kernel
theorem dX5_slotAt_2 : decode cX5_slotAt 2 = .ok (.bipush 14, 2) := by decide +kernel
theorem dX5_slotAt_4 : decode cX5_slotAt 4 = .ok (.bipush 6, 2) := by decide +kernel
theorem dX5_slotAt_6 : decode cX5_slotAt 6 = .ok (.iload_n 0, 1) := by decide +kernel
theorem dX5_slotAt_7 : decode cX5_slotAt 7 = .ok (.imul, 1) := by decide +kernel
theorem dX5_slotAt_8 : decode cX5_slotAt 8 = .ok (.iload_n 1, 1) := by decide +kernel
theorem dX5_slotAt_9 : decode cX5_slotAt 9 = .ok (.iadd, 1) := by decide +kernel
theorem dX5_slotAt_10 : decode cX5_slotAt 10 = .ok (.imul, 1) := by decide +kernel
theorem dX5_slotAt_11 : decode cX5_slotAt 11 = .ok (.iadd, 1) := by decide +kernel
theorem dX5_slotAt_12 : decode cX5_slotAt 12 = .ok (.ireturn, 1) := by decide +kernel
theorem dX5_channelAt_0 : decode cX5_channelAt 0 = .ok (.bipush 64, 2) := by decide +kernel
theorem dX5_channelAt_2 : decode cX5_channelAt 2 = .ok (.bipush 7, 2) := by decide +kernel
theorem dX5_channelAt_4 : decode cX5_channelAt 4 = .ok (.iload_n 0, 1) := by decide +kernel
theorem dX5_channelAt_5 : decode cX5_channelAt 5 = .ok (.imul, 1) := by decide +kernel
theorem dX5_channelAt_6 : decode cX5_channelAt 6 = .ok (.iadd, 1) := by decide +kernel
theorem dX5_channelAt_7 : decode cX5_channelAt 7 = .ok (.ireturn, 1) := by decide +kernel
theorem dX5_isEngines_0 : decode cX5_isEngines 0 = .ok (.aload_n 0, 1) := by decide +kernel
theorem dX5_isEngines_1 : decode cX5_isEngines 1 = .ok (.getfield 7, 3) := by decide +kernel
theorem dX5_isEngines_4 : decode cX5_isEngines 4 = .ok (.iload_n 1, 1) := by decide +kernel
theorem dX5_isEngines_5 : decode cX5_isEngines 5 = .ok (.iconst 0, 1) := by decide +kernel
theorem dX5_isEngines_6 : decode cX5_isEngines 6 = .ok (.iadd, 1) := by decide +kernel
theorem dX5_isEngines_7 : decode cX5_isEngines 7 = .ok (.iaload, 1) := by decide +kernel
theorem dX5_isEngines_8 : decode cX5_isEngines 8 = .ok (.iconst 1, 1) := by decide +kernel
theorem dX5_isEngines_9 : decode cX5_isEngines 9 = .ok (.if_icmp .ne 20, 3) := by decide +kernel
theorem dX5_isEngines_12 : decode cX5_isEngines 12 = .ok (.aload_n 0, 1) := by decide +kernel
theorem dX5_isEngines_13 : decode cX5_isEngines 13 = .ok (.getfield 7, 3) := by decide +kernel
theorem dX5_isEngines_16 : decode cX5_isEngines 16 = .ok (.iload_n 1, 1) := by decide +kernel
theorem dX5_isEngines_17 : decode cX5_isEngines 17 = .ok (.bipush 10, 2) := by decide +kernel
theorem dX5_isEngines_19 : decode cX5_isEngines 19 = .ok (.iadd, 1) := by decide +kernel
theorem dX5_isEngines_20 : decode cX5_isEngines 20 = .ok (.iaload, 1) := by decide +kernel
theorem dX5_isEngines_21 : decode cX5_isEngines 21 = .ok (.iconst 1, 1) := by decide +kernel
theorem dX5_isEngines_22 : decode cX5_isEngines 22 = .ok (.if_icmp .ne 7, 3) := by decide +kernel
theorem dX5_isEngines_25 : decode cX5_isEngines 25 = .ok (.iconst 1, 1) := by decide +kernel
theorem dX5_isEngines_26 : decode cX5_isEngines 26 = .ok (.goto 4, 3) := by decide +kernel
theorem dX5_isEngines_29 : decode cX5_isEngines 29 = .ok (.iconst 0, 1) := by decide +kernel
theorem dX5_isEngines_30 : decode cX5_isEngines 30 = .ok (.ireturn, 1) := by decide +kernel
theorem dX5_comes_0 : decode cX5_comes 0 = .ok (.aload_n 0, 1) := by decide +kernel
theorem dX5_comes_1 : decode cX5_comes 1 = .ok (.getfield 35, 3) := by decide +kernel
theorem dX5_comes_4 : decode cX5_comes 4 = .ok (.iconst 0, 1) := by decide +kernel
theorem dX5_comes_5 : decode cX5_comes 5 = .ok (.iaload, 1) := by decide +kernel
theorem dX5_comes_6 : decode cX5_comes 6 = .ok (.invokestatic 75, 3) := by decide +kernel
theorem dX5_comes_9 : decode cX5_comes 9 = .ok (.istore_n 1, 1) := by decide +kernel
theorem dX5_comes_10 : decode cX5_comes 10 = .ok (.aload_n 0, 1) := by decide +kernel
theorem dX5_comes_11 : decode cX5_comes 11 = .ok (.getfield 35, 3) := by decide +kernel
theorem dX5_comes_14 : decode cX5_comes 14 = .ok (.iconst 0, 1) := by decide +kernel
theorem dX5_comes_15 : decode cX5_comes 15 = .ok (.iaload, 1) := by decide +kernel
theorem dX5_comes_16 : decode cX5_comes 16 = .ok (.aload_n 0, 1) := by decide +kernel
theorem dX5_comes_17 : decode cX5_comes 17 = .ok (.getfield 7, 3) := by decide +kernel
theorem dX5_comes_20 : decode cX5_comes 20 = .ok (.iload_n 1, 1) := by decide +kernel
theorem dX5_comes_21 : decode cX5_comes 21 = .ok (.iconst 3, 1) := by decide +kernel
theorem dX5_comes_22 : decode cX5_comes 22 = .ok (.iadd, 1) := by decide +kernel
theorem dX5_comes_23 : decode cX5_comes 23 = .ok (.iaload, 1) := by decide +kernel
theorem dX5_comes_24 : decode cX5_comes 24 = .ok (.invokestatic 79, 3) := by decide +kernel
theorem dX5_comes_27 : decode cX5_comes 27 = .ok (.istore_n 2, 1) := by decide +kernel
theorem dX5_comes_28 : decode cX5_comes 28 = .ok (.aload_n 0, 1) := by decide +kernel
theorem dX5_comes_29 : decode cX5_comes 29 = .ok (.iload_n 2, 1) := by decide +kernel
theorem dX5_comes_30 : decode cX5_comes 30 = .ok (.invokevirtual 83, 3) := by decide +kernel
theorem dX5_comes_33 : decode cX5_comes 33 = .ok (.ifCond .eq 5, 3) := by decide +kernel
theorem dX5_comes_36 : decode cX5_comes 36 = .ok (.iconst 0, 1) := by decide +kernel
theorem dX5_comes_37 : decode cX5_comes 37 = .ok (.ireturn, 1) := by decide +kernel
theorem dX5_comes_38 : decode cX5_comes 38 = .ok (.aload_n 0, 1) := by decide +kernel
theorem dX5_comes_39 : decode cX5_comes 39 = .ok (.getfield 7, 3) := by decide +kernel
theorem dX5_comes_42 : decode cX5_comes 42 = .ok (.iload_n 2, 1) := by decide +kernel
theorem dX5_comes_43 : decode cX5_comes 43 = .ok (.iconst 0, 1) := by decide +kernel
theorem dX5_comes_44 : decode cX5_comes 44 = .ok (.iadd, 1) := by decide +kernel
theorem dX5_comes_45 : decode cX5_comes 45 = .ok (.iconst 1, 1) := by decide +kernel
theorem dX5_comes_46 : decode cX5_comes 46 = .ok (.iastore, 1) := by decide +kernel
theorem dX5_comes_47 : decode cX5_comes 47 = .ok (.iconst 1, 1) := by decide +kernel
theorem dX5_comes_48 : decode cX5_comes 48 = .ok (.istore_n 3, 1) := by decide +kernel
theorem dX5_comes_49 : decode cX5_comes 49 = .ok (.iload_n 3, 1) := by decide +kernel
theorem dX5_comes_50 : decode cX5_comes 50 = .ok (.bipush 10, 2) := by decide +kernel
theorem dX5_comes_52 : decode cX5_comes 52 = .ok (.if_icmp .ge 23, 3) := by decide +kernel
theorem dX5_comes_55 : decode cX5_comes 55 = .ok (.aload_n 0, 1) := by decide +kernel
theorem dX5_comes_56 : decode cX5_comes 56 = .ok (.getfield 7, 3) := by decide +kernel
theorem dX5_comes_59 : decode cX5_comes 59 = .ok (.iload_n 2, 1) := by decide +kernel
theorem dX5_comes_60 : decode cX5_comes 60 = .ok (.iload_n 3, 1) := by decide +kernel
theorem dX5_comes_61 : decode cX5_comes 61 = .ok (.iadd, 1) := by decide +kernel
theorem dX5_comes_62 : decode cX5_comes 62 = .ok (.aload_n 0, 1) := by decide +kernel
theorem dX5_comes_63 : decode cX5_comes 63 = .ok (.getfield 35, 3) := by decide +kernel
theorem dX5_comes_66 : decode cX5_comes 66 = .ok (.iload_n 3, 1) := by decide +kernel
theorem dX5_comes_67 : decode cX5_comes 67 = .ok (.iaload, 1) := by decide +kernel
theorem dX5_comes_68 : decode cX5_comes 68 = .ok (.iastore, 1) := by decide +kernel
theorem dX5_comes_69 : decode cX5_comes 69 = .ok (.iinc 3 1, 3) := by decide +kernel
theorem dX5_comes_72 : decode cX5_comes 72 = .ok (.goto (-23), 3) := by decide +kernel
theorem dX5_comes_75 : decode cX5_comes 75 = .ok (.aload_n 0, 1) := by decide +kernel
theorem dX5_comes_76 : decode cX5_comes 76 = .ok (.getfield 7, 3) := by decide +kernel
theorem dX5_comes_79 : decode cX5_comes 79 = .ok (.iload_n 2, 1) := by decide +kernel
theorem dX5_comes_80 : decode cX5_comes 80 = .ok (.bipush 10, 2) := by decide +kernel
theorem dX5_comes_82 : decode cX5_comes 82 = .ok (.iadd, 1) := by decide +kernel
theorem dX5_comes_83 : decode cX5_comes 83 = .ok (.iconst 1, 1) := by decide +kernel
theorem dX5_comes_84 : decode cX5_comes 84 = .ok (.iastore, 1) := by decide +kernel
theorem dX5_comes_85 : decode cX5_comes 85 = .ok (.aload_n 0, 1) := by decide +kernel
theorem dX5_comes_86 : decode cX5_comes 86 = .ok (.getfield 7, 3) := by decide +kernel
theorem dX5_comes_89 : decode cX5_comes 89 = .ok (.iload_n 2, 1) := by decide +kernel
theorem dX5_comes_90 : decode cX5_comes 90 = .ok (.bipush 11, 2) := by decide +kernel
theorem dX5_comes_92 : decode cX5_comes 92 = .ok (.iadd, 1) := by decide +kernel
theorem dX5_comes_93 : decode cX5_comes 93 = .ok (.iconst 0, 1) := by decide +kernel
theorem dX5_comes_94 : decode cX5_comes 94 = .ok (.iastore, 1) := by decide +kernel
theorem dX5_comes_95 : decode cX5_comes 95 = .ok (.aload_n 0, 1) := by decide +kernel
theorem dX5_comes_96 : decode cX5_comes 96 = .ok (.getfield 7, 3) := by decide +kernel
theorem dX5_comes_99 : decode cX5_comes 99 = .ok (.iload_n 2, 1) := by decide +kernel
theorem dX5_comes_100 : decode cX5_comes 100 = .ok (.bipush 12, 2) := by decide +kernel
theorem dX5_comes_102 : decode cX5_comes 102 = .ok (.iadd, 1) := by decide +kernel
theorem dX5_comes_103 : decode cX5_comes 103 = .ok (.aload_n 0, 1) := by decide +kernel
theorem dX5_comes_104 : decode cX5_comes 104 = .ok (.getfield 7, 3) := by decide +kernel
theorem dX5_comes_107 : decode cX5_comes 107 = .ok (.iload_n 2, 1) := by decide +kernel
theorem dX5_comes_108 : decode cX5_comes 108 = .ok (.iconst 3, 1) := by decide +kernel
theorem dX5_comes_109 : decode cX5_comes 109 = .ok (.iadd, 1) := by decide +kernel
theorem dX5_comes_110 : decode cX5_comes 110 = .ok (.iaload, 1) := by decide +kernel
theorem dX5_comes_111 : decode cX5_comes 111 = .ok (.aload_n 0, 1) := by decide +kernel
theorem dX5_comes_112 : decode cX5_comes 112 = .ok (.getfield 7, 3) := by decide +kernel
theorem dX5_comes_115 : decode cX5_comes 115 = .ok (.iload_n 2, 1) := by decide +kernel
theorem dX5_comes_116 : decode cX5_comes 116 = .ok (.bipush 6, 2) := by decide +kernel
theorem dX5_comes_118 : decode cX5_comes 118 = .ok (.iadd, 1) := by decide +kernel
theorem dX5_comes_119 : decode cX5_comes 119 = .ok (.iaload, 1) := by decide +kernel
theorem dX5_comes_120 : decode cX5_comes 120 = .ok (.imul, 1) := by decide +kernel
theorem dX5_comes_121 : decode cX5_comes 121 = .ok (.iastore, 1) := by decide +kernel
theorem dX5_comes_122 : decode cX5_comes 122 = .ok (.aload_n 0, 1) := by decide +kernel
theorem dX5_comes_123 : decode cX5_comes 123 = .ok (.getfield 7, 3) := by decide +kernel
theorem dX5_comes_126 : decode cX5_comes 126 = .ok (.iload_n 2, 1) := by decide +kernel
theorem dX5_comes_127 : decode cX5_comes 127 = .ok (.bipush 13, 2) := by decide +kernel
theorem dX5_comes_129 : decode cX5_comes 129 = .ok (.iadd, 1) := by decide +kernel
theorem dX5_comes_130 : decode cX5_comes 130 = .ok (.iconst 0, 1) := by decide +kernel
theorem dX5_comes_131 : decode cX5_comes 131 = .ok (.iastore, 1) := by decide +kernel
theorem dX5_comes_132 : decode cX5_comes 132 = .ok (.aload_n 0, 1) := by decide +kernel
theorem dX5_comes_133 : decode cX5_comes 133 = .ok (.getfield 7, 3) := by decide +kernel
theorem dX5_comes_136 : decode cX5_comes 136 = .ok (.iload_n 1, 1) := by decide +kernel
theorem dX5_comes_137 : decode cX5_comes 137 = .ok (.iconst 3, 1) := by decide +kernel
theorem dX5_comes_138 : decode cX5_comes 138 = .ok (.iadd, 1) := by decide +kernel
theorem dX5_comes_139 : decode cX5_comes 139 = .ok (.aload_n 0, 1) := by decide +kernel
theorem dX5_comes_140 : decode cX5_comes 140 = .ok (.getfield 7, 3) := by decide +kernel
theorem dX5_comes_143 : decode cX5_comes 143 = .ok (.iload_n 1, 1) := by decide +kernel
theorem dX5_comes_144 : decode cX5_comes 144 = .ok (.iconst 3, 1) := by decide +kernel
theorem dX5_comes_145 : decode cX5_comes 145 = .ok (.iadd, 1) := by decide +kernel
theorem dX5_comes_146 : decode cX5_comes 146 = .ok (.iaload, 1) := by decide +kernel
theorem dX5_comes_147 : decode cX5_comes 147 = .ok (.iconst 1, 1) := by decide +kernel
theorem dX5_comes_148 : decode cX5_comes 148 = .ok (.iadd, 1) := by decide +kernel
theorem dX5_comes_149 : decode cX5_comes 149 = .ok (.bipush 6, 2) := by decide +kernel
theorem dX5_comes_151 : decode cX5_comes 151 = .ok (.irem, 1) := by decide +kernel
theorem dX5_comes_152 : decode cX5_comes 152 = .ok (.iastore, 1) := by decide +kernel
theorem dX5_comes_153 : decode cX5_comes 153 = .ok (.iconst 1, 1) := by decide +kernel
theorem dX5_comes_154 : decode cX5_comes 154 = .ok (.ireturn, 1) := by decide +kernel
theorem dX5_doesItem_0 : decode cX5_doesItem 0 = .ok (.iload_n 1, 1) := by decide +kernel
theorem dX5_doesItem_1 : decode cX5_doesItem 1 = .ok (.bipush 108, 2) := by decide +kernel
theorem dX5_doesItem_3 : decode cX5_doesItem 3 = .ok (.if_icmp .ne 8, 3) := by decide +kernel
theorem dX5_doesItem_6 : decode cX5_doesItem 6 = .ok (.aload_n 0, 1) := by decide +kernel
theorem dX5_doesItem_7 : decode cX5_doesItem 7 = .ok (.invokevirtual 86, 3) := by decide +kernel
theorem dX5_doesItem_10 : decode cX5_doesItem 10 = .ok (.ireturn, 1) := by decide +kernel
theorem dX5_doesItem_11 : decode cX5_doesItem 11 = .ok (.iload_n 1, 1) := by decide +kernel
theorem dX5_doesItem_12 : decode cX5_doesItem 12 = .ok (.bipush 102, 2) := by decide +kernel
theorem dX5_doesItem_14 : decode cX5_doesItem 14 = .ok (.if_icmp .ne 23, 3) := by decide +kernel
theorem dX5_doesItem_17 : decode cX5_doesItem 17 = .ok (.aload_n 0, 1) := by decide +kernel
theorem dX5_doesItem_18 : decode cX5_doesItem 18 = .ok (.getfield 7, 3) := by decide +kernel
theorem dX5_doesItem_21 : decode cX5_doesItem 21 = .ok (.aload_n 0, 1) := by decide +kernel
theorem dX5_doesItem_22 : decode cX5_doesItem 22 = .ok (.getfield 35, 3) := by decide +kernel
theorem dX5_doesItem_25 : decode cX5_doesItem 25 = .ok (.iconst 0, 1) := by decide +kernel
theorem dX5_doesItem_26 : decode cX5_doesItem 26 = .ok (.iaload, 1) := by decide +kernel
theorem dX5_doesItem_27 : decode cX5_doesItem 27 = .ok (.aload_n 0, 1) := by decide +kernel
theorem dX5_doesItem_28 : decode cX5_doesItem 28 = .ok (.getfield 35, 3) := by decide +kernel
theorem dX5_doesItem_31 : decode cX5_doesItem 31 = .ok (.iconst 1, 1) := by decide +kernel
theorem dX5_doesItem_32 : decode cX5_doesItem 32 = .ok (.iaload, 1) := by decide +kernel
theorem dX5_doesItem_33 : decode cX5_doesItem 33 = .ok (.iastore, 1) := by decide +kernel
theorem dX5_doesItem_34 : decode cX5_doesItem 34 = .ok (.goto 47, 3) := by decide +kernel
theorem dX5_doesItem_37 : decode cX5_doesItem 37 = .ok (.aload_n 0, 1) := by decide +kernel
theorem dX5_doesItem_38 : decode cX5_doesItem 38 = .ok (.getfield 7, 3) := by decide +kernel
theorem dX5_doesItem_41 : decode cX5_doesItem 41 = .ok (.aload_n 0, 1) := by decide +kernel
theorem dX5_doesItem_42 : decode cX5_doesItem 42 = .ok (.getfield 35, 3) := by decide +kernel
theorem dX5_doesItem_45 : decode cX5_doesItem 45 = .ok (.iconst 0, 1) := by decide +kernel
theorem dX5_doesItem_46 : decode cX5_doesItem 46 = .ok (.iaload, 1) := by decide +kernel
theorem dX5_doesItem_47 : decode cX5_doesItem 47 = .ok (.invokestatic 75, 3) := by decide +kernel
theorem dX5_doesItem_50 : decode cX5_doesItem 50 = .ok (.iconst 1, 1) := by decide +kernel
theorem dX5_doesItem_51 : decode cX5_doesItem 51 = .ok (.iadd, 1) := by decide +kernel
theorem dX5_doesItem_52 : decode cX5_doesItem 52 = .ok (.aload_n 0, 1) := by decide +kernel
theorem dX5_doesItem_53 : decode cX5_doesItem 53 = .ok (.getfield 35, 3) := by decide +kernel
theorem dX5_doesItem_56 : decode cX5_doesItem 56 = .ok (.iconst 1, 1) := by decide +kernel
theorem dX5_doesItem_57 : decode cX5_doesItem 57 = .ok (.iaload, 1) := by decide +kernel
theorem dX5_doesItem_58 : decode cX5_doesItem 58 = .ok (.iastore, 1) := by decide +kernel
theorem dX5_doesItem_59 : decode cX5_doesItem 59 = .ok (.aload_n 0, 1) := by decide +kernel
theorem dX5_doesItem_60 : decode cX5_doesItem 60 = .ok (.getfield 7, 3) := by decide +kernel
theorem dX5_doesItem_63 : decode cX5_doesItem 63 = .ok (.aload_n 0, 1) := by decide +kernel
theorem dX5_doesItem_64 : decode cX5_doesItem 64 = .ok (.getfield 35, 3) := by decide +kernel
theorem dX5_doesItem_67 : decode cX5_doesItem 67 = .ok (.iconst 0, 1) := by decide +kernel
theorem dX5_doesItem_68 : decode cX5_doesItem 68 = .ok (.iaload, 1) := by decide +kernel
theorem dX5_doesItem_69 : decode cX5_doesItem 69 = .ok (.invokestatic 75, 3) := by decide +kernel
theorem dX5_doesItem_72 : decode cX5_doesItem 72 = .ok (.iconst 2, 1) := by decide +kernel
theorem dX5_doesItem_73 : decode cX5_doesItem 73 = .ok (.iadd, 1) := by decide +kernel
theorem dX5_doesItem_74 : decode cX5_doesItem 74 = .ok (.aload_n 0, 1) := by decide +kernel
theorem dX5_doesItem_75 : decode cX5_doesItem 75 = .ok (.getfield 35, 3) := by decide +kernel
theorem dX5_doesItem_78 : decode cX5_doesItem 78 = .ok (.iconst 2, 1) := by decide +kernel
theorem dX5_doesItem_79 : decode cX5_doesItem 79 = .ok (.iaload, 1) := by decide +kernel
theorem dX5_doesItem_80 : decode cX5_doesItem 80 = .ok (.iastore, 1) := by decide +kernel
theorem dX5_doesItem_81 : decode cX5_doesItem 81 = .ok (.iconst 1, 1) := by decide +kernel
theorem dX5_doesItem_82 : decode cX5_doesItem 82 = .ok (.ireturn, 1) := by decide +kernel
theorem dX5_goesThrough_0 : decode cX5_goesThrough 0 = .ok (.aload_n 0, 1) := by decide +kernel
theorem dX5_goesThrough_1 : decode cX5_goesThrough 1 = .ok (.iconst 0, 1) := by decide +kernel
theorem dX5_goesThrough_2 : decode cX5_goesThrough 2 = .ok (.putfield 46, 3) := by decide +kernel
theorem dX5_goesThrough_5 : decode cX5_goesThrough 5 = .ok (.aload_n 0, 1) := by decide +kernel
theorem dX5_goesThrough_6 : decode cX5_goesThrough 6 = .ok (.iconst 0, 1) := by decide +kernel
theorem dX5_goesThrough_7 : decode cX5_goesThrough 7 = .ok (.putfield 89, 3) := by decide +kernel
theorem dX5_goesThrough_10 : decode cX5_goesThrough 10 = .ok (.aload_n 0, 1) := by decide +kernel
theorem dX5_goesThrough_11 : decode cX5_goesThrough 11 = .ok (.invokevirtual 65, 3) := by decide +kernel
theorem dX5_goesThrough_14 : decode cX5_goesThrough 14 = .ok (.aload_n 0, 1) := by decide +kernel
theorem dX5_goesThrough_15 : decode cX5_goesThrough 15 = .ok (.getfield 53, 3) := by decide +kernel
theorem dX5_goesThrough_18 : decode cX5_goesThrough 18 = .ok (.iconst (-1), 1) := by decide +kernel
theorem dX5_goesThrough_19 : decode cX5_goesThrough 19 = .ok (.if_icmp .eq 75, 3) := by decide +kernel
theorem dX5_goesThrough_22 : decode cX5_goesThrough 22 = .ok (.aload_n 0, 1) := by decide +kernel
theorem dX5_goesThrough_23 : decode cX5_goesThrough 23 = .ok (.getfield 53, 3) := by decide +kernel
theorem dX5_goesThrough_26 : decode cX5_goesThrough 26 = .ok (.istore_n 2, 1) := by decide +kernel
theorem dX5_goesThrough_27 : decode cX5_goesThrough 27 = .ok (.iload_n 2, 1) := by decide +kernel
theorem dX5_goesThrough_28 : decode cX5_goesThrough 28 = .ok (.bipush 108, 2) := by decide +kernel
theorem dX5_goesThrough_30 : decode cX5_goesThrough 30 = .ok (.if_icmp .eq 15, 3) := by decide +kernel
theorem dX5_goesThrough_33 : decode cX5_goesThrough 33 = .ok (.iload_n 2, 1) := by decide +kernel
theorem dX5_goesThrough_34 : decode cX5_goesThrough 34 = .ok (.bipush 102, 2) := by decide +kernel
theorem dX5_goesThrough_36 : decode cX5_goesThrough 36 = .ok (.if_icmp .eq 9, 3) := by decide +kernel
theorem dX5_goesThrough_39 : decode cX5_goesThrough 39 = .ok (.iload_n 2, 1) := by decide +kernel
theorem dX5_goesThrough_40 : decode cX5_goesThrough 40 = .ok (.bipush 99, 2) := by decide +kernel
theorem dX5_goesThrough_42 : decode cX5_goesThrough 42 = .ok (.if_icmp .ne 15, 3) := by decide +kernel
theorem dX5_goesThrough_45 : decode cX5_goesThrough 45 = .ok (.aload_n 0, 1) := by decide +kernel
theorem dX5_goesThrough_46 : decode cX5_goesThrough 46 = .ok (.iload_n 2, 1) := by decide +kernel
theorem dX5_goesThrough_47 : decode cX5_goesThrough 47 = .ok (.invokevirtual 92, 3) := by decide +kernel
theorem dX5_goesThrough_50 : decode cX5_goesThrough 50 = .ok (.ifCond .eq 7, 3) := by decide +kernel
theorem dX5_goesThrough_53 : decode cX5_goesThrough 53 = .ok (.iconst 1, 1) := by decide +kernel
theorem dX5_goesThrough_54 : decode cX5_goesThrough 54 = .ok (.goto 4, 3) := by decide +kernel
theorem dX5_goesThrough_57 : decode cX5_goesThrough 57 = .ok (.iconst 0, 1) := by decide +kernel
theorem dX5_goesThrough_58 : decode cX5_goesThrough 58 = .ok (.istore_n 3, 1) := by decide +kernel
theorem dX5_goesThrough_59 : decode cX5_goesThrough 59 = .ok (.iload_n 3, 1) := by decide +kernel
theorem dX5_goesThrough_60 : decode cX5_goesThrough 60 = .ok (.ifCond .eq 15, 3) := by decide +kernel
theorem dX5_goesThrough_63 : decode cX5_goesThrough 63 = .ok (.iload_n 1, 1) := by decide +kernel
theorem dX5_goesThrough_64 : decode cX5_goesThrough 64 = .ok (.ifCond .eq 13, 3) := by decide +kernel
theorem dX5_goesThrough_67 : decode cX5_goesThrough 67 = .ok (.aload_n 0, 1) := by decide +kernel
theorem dX5_goesThrough_68 : decode cX5_goesThrough 68 = .ok (.iload_n 2, 1) := by decide +kernel
theorem dX5_goesThrough_69 : decode cX5_goesThrough 69 = .ok (.invokevirtual 95, 3) := by decide +kernel
theorem dX5_goesThrough_72 : decode cX5_goesThrough 72 = .ok (.ifCond .ne 5, 3) := by decide +kernel
theorem dX5_goesThrough_75 : decode cX5_goesThrough 75 = .ok (.iconst 0, 1) := by decide +kernel
theorem dX5_goesThrough_76 : decode cX5_goesThrough 76 = .ok (.ireturn, 1) := by decide +kernel
theorem dX5_goesThrough_77 : decode cX5_goesThrough 77 = .ok (.aload_n 0, 1) := by decide +kernel
theorem dX5_goesThrough_78 : decode cX5_goesThrough 78 = .ok (.dup, 1) := by decide +kernel
theorem dX5_goesThrough_79 : decode cX5_goesThrough 79 = .ok (.getfield 89, 3) := by decide +kernel
theorem dX5_goesThrough_82 : decode cX5_goesThrough 82 = .ok (.iconst 1, 1) := by decide +kernel
theorem dX5_goesThrough_83 : decode cX5_goesThrough 83 = .ok (.iadd, 1) := by decide +kernel
theorem dX5_goesThrough_84 : decode cX5_goesThrough 84 = .ok (.putfield 89, 3) := by decide +kernel
theorem dX5_goesThrough_87 : decode cX5_goesThrough 87 = .ok (.aload_n 0, 1) := by decide +kernel
theorem dX5_goesThrough_88 : decode cX5_goesThrough 88 = .ok (.invokevirtual 65, 3) := by decide +kernel
theorem dX5_goesThrough_91 : decode cX5_goesThrough 91 = .ok (.goto (-77), 3) := by decide +kernel
theorem dX5_goesThrough_94 : decode cX5_goesThrough 94 = .ok (.iconst 1, 1) := by decide +kernel
theorem dX5_goesThrough_95 : decode cX5_goesThrough 95 = .ok (.ireturn, 1) := by decide +kernel
theorem dX5_keepsSpare_0 : decode cX5_keepsSpare 0 = .ok (.iconst 0, 1) := by decide +kernel
theorem dX5_keepsSpare_1 : decode cX5_keepsSpare 1 = .ok (.istore_n 1, 1) := by decide +kernel
theorem dX5_keepsSpare_2 : decode cX5_keepsSpare 2 = .ok (.iload_n 1, 1) := by decide +kernel
theorem dX5_keepsSpare_3 : decode cX5_keepsSpare 3 = .ok (.sipush 455, 3) := by decide +kernel
theorem dX5_keepsSpare_6 : decode cX5_keepsSpare 6 = .ok (.if_icmp .ge 21, 3) := by decide +kernel
theorem dX5_keepsSpare_9 : decode cX5_keepsSpare 9 = .ok (.aload_n 0, 1) := by decide +kernel
theorem dX5_keepsSpare_10 : decode cX5_keepsSpare 10 = .ok (.getfield 23, 3) := by decide +kernel
theorem dX5_keepsSpare_13 : decode cX5_keepsSpare 13 = .ok (.iload_n 1, 1) := by decide +kernel
theorem dX5_keepsSpare_14 : decode cX5_keepsSpare 14 = .ok (.aload_n 0, 1) := by decide +kernel
theorem dX5_keepsSpare_15 : decode cX5_keepsSpare 15 = .ok (.getfield 7, 3) := by decide +kernel
theorem dX5_keepsSpare_18 : decode cX5_keepsSpare 18 = .ok (.iload_n 1, 1) := by decide +kernel
theorem dX5_keepsSpare_19 : decode cX5_keepsSpare 19 = .ok (.iaload, 1) := by decide +kernel
theorem dX5_keepsSpare_20 : decode cX5_keepsSpare 20 = .ok (.iastore, 1) := by decide +kernel
theorem dX5_keepsSpare_21 : decode cX5_keepsSpare 21 = .ok (.iinc 1 1, 3) := by decide +kernel
theorem dX5_keepsSpare_24 : decode cX5_keepsSpare 24 = .ok (.goto (-22), 3) := by decide +kernel
theorem dX5_keepsSpare_27 : decode cX5_keepsSpare 27 = .ok (.return_, 1) := by decide +kernel
theorem dX5_takesBack_0 : decode cX5_takesBack 0 = .ok (.iconst 0, 1) := by decide +kernel
theorem dX5_takesBack_1 : decode cX5_takesBack 1 = .ok (.istore_n 1, 1) := by decide +kernel
theorem dX5_takesBack_2 : decode cX5_takesBack 2 = .ok (.iload_n 1, 1) := by decide +kernel
theorem dX5_takesBack_3 : decode cX5_takesBack 3 = .ok (.sipush 455, 3) := by decide +kernel
theorem dX5_takesBack_6 : decode cX5_takesBack 6 = .ok (.if_icmp .ge 21, 3) := by decide +kernel
theorem dX5_takesBack_9 : decode cX5_takesBack 9 = .ok (.aload_n 0, 1) := by decide +kernel
theorem dX5_takesBack_10 : decode cX5_takesBack 10 = .ok (.getfield 7, 3) := by decide +kernel
theorem dX5_takesBack_13 : decode cX5_takesBack 13 = .ok (.iload_n 1, 1) := by decide +kernel
theorem dX5_takesBack_14 : decode cX5_takesBack 14 = .ok (.aload_n 0, 1) := by decide +kernel
theorem dX5_takesBack_15 : decode cX5_takesBack 15 = .ok (.getfield 23, 3) := by decide +kernel
theorem dX5_takesBack_18 : decode cX5_takesBack 18 = .ok (.iload_n 1, 1) := by decide +kernel
theorem dX5_takesBack_19 : decode cX5_takesBack 19 = .ok (.iaload, 1) := by decide +kernel
theorem dX5_takesBack_20 : decode cX5_takesBack 20 = .ok (.iastore, 1) := by decide +kernel
theorem dX5_takesBack_21 : decode cX5_takesBack 21 = .ok (.iinc 1 1, 3) := by decide +kernel
theorem dX5_takesBack_24 : decode cX5_takesBack 24 = .ok (.goto (-22), 3) := by decide +kernel
theorem dX5_takesBack_27 : decode cX5_takesBack 27 = .ok (.return_, 1) := by decide +kernel
theorem dX5_remembers_0 : decode cX5_remembers 0 = .ok (.aload_n 0, 1) := by decide +kernel
theorem dX5_remembers_1 : decode cX5_remembers 1 = .ok (.getfield 98, 3) := by decide +kernel
theorem dX5_remembers_4 : decode cX5_remembers 4 = .ok (.bipush 6, 2) := by decide +kernel
theorem dX5_remembers_6 : decode cX5_remembers 6 = .ok (.if_icmp .ne 44, 3) := by decide +kernel
theorem dX5_remembers_9 : decode cX5_remembers 9 = .ok (.iconst 0, 1) := by decide +kernel
theorem dX5_remembers_10 : decode cX5_remembers 10 = .ok (.istore_n 1, 1) := by decide +kernel
theorem dX5_remembers_11 : decode cX5_remembers 11 = .ok (.iload_n 1, 1) := by decide +kernel
theorem dX5_remembers_12 : decode cX5_remembers 12 = .ok (.sipush 2275, 3) := by decide +kernel
theorem dX5_remembers_15 : decode cX5_remembers 15 = .ok (.if_icmp .ge 25, 3) := by decide +kernel
theorem dX5_remembers_18 : decode cX5_remembers 18 = .ok (.aload_n 0, 1) := by decide +kernel
theorem dX5_remembers_19 : decode cX5_remembers 19 = .ok (.getfield 13, 3) := by decide +kernel
theorem dX5_remembers_22 : decode cX5_remembers 22 = .ok (.iload_n 1, 1) := by decide +kernel
theorem dX5_remembers_23 : decode cX5_remembers 23 = .ok (.aload_n 0, 1) := by decide +kernel
theorem dX5_remembers_24 : decode cX5_remembers 24 = .ok (.getfield 13, 3) := by decide +kernel
theorem dX5_remembers_27 : decode cX5_remembers 27 = .ok (.iload_n 1, 1) := by decide +kernel
theorem dX5_remembers_28 : decode cX5_remembers 28 = .ok (.sipush 455, 3) := by decide +kernel
theorem dX5_remembers_31 : decode cX5_remembers 31 = .ok (.iadd, 1) := by decide +kernel
theorem dX5_remembers_32 : decode cX5_remembers 32 = .ok (.iaload, 1) := by decide +kernel
theorem dX5_remembers_33 : decode cX5_remembers 33 = .ok (.iastore, 1) := by decide +kernel
theorem dX5_remembers_34 : decode cX5_remembers 34 = .ok (.iinc 1 1, 3) := by decide +kernel
theorem dX5_remembers_37 : decode cX5_remembers 37 = .ok (.goto (-26), 3) := by decide +kernel
theorem dX5_remembers_40 : decode cX5_remembers 40 = .ok (.aload_n 0, 1) := by decide +kernel
theorem dX5_remembers_41 : decode cX5_remembers 41 = .ok (.dup, 1) := by decide +kernel
theorem dX5_remembers_42 : decode cX5_remembers 42 = .ok (.getfield 98, 3) := by decide +kernel
theorem dX5_remembers_45 : decode cX5_remembers 45 = .ok (.iconst 1, 1) := by decide +kernel
theorem dX5_remembers_46 : decode cX5_remembers 46 = .ok (.isub, 1) := by decide +kernel
theorem dX5_remembers_47 : decode cX5_remembers 47 = .ok (.putfield 98, 3) := by decide +kernel
theorem dX5_remembers_50 : decode cX5_remembers 50 = .ok (.iconst 0, 1) := by decide +kernel
theorem dX5_remembers_51 : decode cX5_remembers 51 = .ok (.istore_n 1, 1) := by decide +kernel
theorem dX5_remembers_52 : decode cX5_remembers 52 = .ok (.iload_n 1, 1) := by decide +kernel
theorem dX5_remembers_53 : decode cX5_remembers 53 = .ok (.sipush 455, 3) := by decide +kernel
theorem dX5_remembers_56 : decode cX5_remembers 56 = .ok (.if_icmp .ge 30, 3) := by decide +kernel
theorem dX5_remembers_59 : decode cX5_remembers 59 = .ok (.aload_n 0, 1) := by decide +kernel
theorem dX5_remembers_60 : decode cX5_remembers 60 = .ok (.getfield 13, 3) := by decide +kernel
theorem dX5_remembers_63 : decode cX5_remembers 63 = .ok (.sipush 455, 3) := by decide +kernel
theorem dX5_remembers_66 : decode cX5_remembers 66 = .ok (.aload_n 0, 1) := by decide +kernel
theorem dX5_remembers_67 : decode cX5_remembers 67 = .ok (.getfield 98, 3) := by decide +kernel
theorem dX5_remembers_70 : decode cX5_remembers 70 = .ok (.imul, 1) := by decide +kernel
theorem dX5_remembers_71 : decode cX5_remembers 71 = .ok (.iload_n 1, 1) := by decide +kernel
theorem dX5_remembers_72 : decode cX5_remembers 72 = .ok (.iadd, 1) := by decide +kernel
theorem dX5_remembers_73 : decode cX5_remembers 73 = .ok (.aload_n 0, 1) := by decide +kernel
theorem dX5_remembers_74 : decode cX5_remembers 74 = .ok (.getfield 23, 3) := by decide +kernel
theorem dX5_remembers_77 : decode cX5_remembers 77 = .ok (.iload_n 1, 1) := by decide +kernel
theorem dX5_remembers_78 : decode cX5_remembers 78 = .ok (.iaload, 1) := by decide +kernel
theorem dX5_remembers_79 : decode cX5_remembers 79 = .ok (.iastore, 1) := by decide +kernel
theorem dX5_remembers_80 : decode cX5_remembers 80 = .ok (.iinc 1 1, 3) := by decide +kernel
theorem dX5_remembers_83 : decode cX5_remembers 83 = .ok (.goto (-31), 3) := by decide +kernel
theorem dX5_remembers_86 : decode cX5_remembers 86 = .ok (.aload_n 0, 1) := by decide +kernel
theorem dX5_remembers_87 : decode cX5_remembers 87 = .ok (.dup, 1) := by decide +kernel
theorem dX5_remembers_88 : decode cX5_remembers 88 = .ok (.getfield 98, 3) := by decide +kernel
theorem dX5_remembers_91 : decode cX5_remembers 91 = .ok (.iconst 1, 1) := by decide +kernel
theorem dX5_remembers_92 : decode cX5_remembers 92 = .ok (.iadd, 1) := by decide +kernel
theorem dX5_remembers_93 : decode cX5_remembers 93 = .ok (.putfield 98, 3) := by decide +kernel
theorem dX5_remembers_96 : decode cX5_remembers 96 = .ok (.return_, 1) := by decide +kernel
theorem dX5_posts_0 : decode cX5_posts 0 = .ok (.aload_n 0, 1) := by decide +kernel
theorem dX5_posts_1 : decode cX5_posts 1 = .ok (.iconst 0, 1) := by decide +kernel
theorem dX5_posts_2 : decode cX5_posts 2 = .ok (.invokevirtual 101, 3) := by decide +kernel
theorem dX5_posts_5 : decode cX5_posts 5 = .ok (.ifCond .ne 11, 3) := by decide +kernel
theorem dX5_posts_8 : decode cX5_posts 8 = .ok (.bipush (-10), 2) := by decide +kernel
theorem dX5_posts_10 : decode cX5_posts 10 = .ok (.aload_n 0, 1) := by decide +kernel
theorem dX5_posts_11 : decode cX5_posts 11 = .ok (.getfield 59, 3) := by decide +kernel
theorem dX5_posts_14 : decode cX5_posts 14 = .ok (.isub, 1) := by decide +kernel
theorem dX5_posts_15 : decode cX5_posts 15 = .ok (.ireturn, 1) := by decide +kernel
theorem dX5_posts_16 : decode cX5_posts 16 = .ok (.aload_n 0, 1) := by decide +kernel
theorem dX5_posts_17 : decode cX5_posts 17 = .ok (.invokevirtual 105, 3) := by decide +kernel
theorem dX5_posts_20 : decode cX5_posts 20 = .ok (.aload_n 0, 1) := by decide +kernel
theorem dX5_posts_21 : decode cX5_posts 21 = .ok (.iconst 1, 1) := by decide +kernel
theorem dX5_posts_22 : decode cX5_posts 22 = .ok (.invokevirtual 101, 3) := by decide +kernel
theorem dX5_posts_25 : decode cX5_posts 25 = .ok (.ifCond .ne 10, 3) := by decide +kernel
theorem dX5_posts_28 : decode cX5_posts 28 = .ok (.aload_n 0, 1) := by decide +kernel
theorem dX5_posts_29 : decode cX5_posts 29 = .ok (.invokevirtual 108, 3) := by decide +kernel
theorem dX5_posts_32 : decode cX5_posts 32 = .ok (.bipush (-3), 2) := by decide +kernel
theorem dX5_posts_34 : decode cX5_posts 34 = .ok (.ireturn, 1) := by decide +kernel
theorem dX5_posts_35 : decode cX5_posts 35 = .ok (.aload_n 0, 1) := by decide +kernel
theorem dX5_posts_36 : decode cX5_posts 36 = .ok (.invokevirtual 111, 3) := by decide +kernel
theorem dX5_posts_39 : decode cX5_posts 39 = .ok (.aload_n 0, 1) := by decide +kernel
theorem dX5_posts_40 : decode cX5_posts 40 = .ok (.iconst 0, 1) := by decide +kernel
theorem dX5_posts_41 : decode cX5_posts 41 = .ok (.putfield 42, 3) := by decide +kernel
theorem dX5_posts_44 : decode cX5_posts 44 = .ok (.aload_n 0, 1) := by decide +kernel
theorem dX5_posts_45 : decode cX5_posts 45 = .ok (.getfield 89, 3) := by decide +kernel
theorem dX5_posts_48 : decode cX5_posts 48 = .ok (.ireturn, 1) := by decide +kernel
theorem dX5_present_0 : decode cX5_present 0 = .ok (.iload_n 1, 1) := by decide +kernel
theorem dX5_present_1 : decode cX5_present 1 = .ok (.aload_n 0, 1) := by decide +kernel
theorem dX5_present_2 : decode cX5_present 2 = .ok (.getfield 7, 3) := by decide +kernel
theorem dX5_present_5 : decode cX5_present 5 = .ok (.iload_n 1, 1) := by decide +kernel
theorem dX5_present_6 : decode cX5_present 6 = .ok (.invokestatic 75, 3) := by decide +kernel
theorem dX5_present_9 : decode cX5_present 9 = .ok (.iconst 4, 1) := by decide +kernel
theorem dX5_present_10 : decode cX5_present 10 = .ok (.iadd, 1) := by decide +kernel
theorem dX5_present_11 : decode cX5_present 11 = .ok (.iaload, 1) := by decide +kernel
theorem dX5_present_12 : decode cX5_present 12 = .ok (.invokestatic 79, 3) := by decide +kernel
theorem dX5_present_15 : decode cX5_present 15 = .ok (.istore_n 2, 1) := by decide +kernel
theorem dX5_present_16 : decode cX5_present 16 = .ok (.aload_n 0, 1) := by decide +kernel
theorem dX5_present_17 : decode cX5_present 17 = .ok (.iload_n 2, 1) := by decide +kernel
theorem dX5_present_18 : decode cX5_present 18 = .ok (.invokevirtual 83, 3) := by decide +kernel
theorem dX5_present_21 : decode cX5_present 21 = .ok (.ifCond .eq 19, 3) := by decide +kernel
theorem dX5_present_24 : decode cX5_present 24 = .ok (.aload_n 0, 1) := by decide +kernel
theorem dX5_present_25 : decode cX5_present 25 = .ok (.getfield 7, 3) := by decide +kernel
theorem dX5_present_28 : decode cX5_present 28 = .ok (.iload_n 2, 1) := by decide +kernel
theorem dX5_present_29 : decode cX5_present 29 = .ok (.bipush 13, 2) := by decide +kernel
theorem dX5_present_31 : decode cX5_present 31 = .ok (.iadd, 1) := by decide +kernel
theorem dX5_present_32 : decode cX5_present 32 = .ok (.iaload, 1) := by decide +kernel
theorem dX5_present_33 : decode cX5_present 33 = .ok (.ifCond .ne 7, 3) := by decide +kernel
theorem dX5_present_36 : decode cX5_present 36 = .ok (.iload_n 2, 1) := by decide +kernel
theorem dX5_present_37 : decode cX5_present 37 = .ok (.goto 5, 3) := by decide +kernel
theorem dX5_present_40 : decode cX5_present 40 = .ok (.bipush (-9), 2) := by decide +kernel
theorem dX5_present_42 : decode cX5_present 42 = .ok (.ireturn, 1) := by decide +kernel
theorem dX5_isReady_0 : decode cX5_isReady 0 = .ok (.aload_n 0, 1) := by decide +kernel
theorem dX5_isReady_1 : decode cX5_isReady 1 = .ok (.iload_n 1, 1) := by decide +kernel
theorem dX5_isReady_2 : decode cX5_isReady 2 = .ok (.invokevirtual 114, 3) := by decide +kernel
theorem dX5_isReady_5 : decode cX5_isReady 5 = .ok (.istore_n 2, 1) := by decide +kernel
theorem dX5_isReady_6 : decode cX5_isReady 6 = .ok (.iload_n 1, 1) := by decide +kernel
theorem dX5_isReady_7 : decode cX5_isReady 7 = .ok (.invokestatic 75, 3) := by decide +kernel
theorem dX5_isReady_10 : decode cX5_isReady 10 = .ok (.istore_n 3, 1) := by decide +kernel
theorem dX5_isReady_11 : decode cX5_isReady 11 = .ok (.aload_n 0, 1) := by decide +kernel
theorem dX5_isReady_12 : decode cX5_isReady 12 = .ok (.getfield 7, 3) := by decide +kernel
theorem dX5_isReady_15 : decode cX5_isReady 15 = .ok (.iload_n 3, 1) := by decide +kernel
theorem dX5_isReady_16 : decode cX5_isReady 16 = .ok (.iconst 0, 1) := by decide +kernel
theorem dX5_isReady_17 : decode cX5_isReady 17 = .ok (.iadd, 1) := by decide +kernel
theorem dX5_isReady_18 : decode cX5_isReady 18 = .ok (.iaload, 1) := by decide +kernel
theorem dX5_isReady_19 : decode cX5_isReady 19 = .ok (.iconst 1, 1) := by decide +kernel
theorem dX5_isReady_20 : decode cX5_isReady 20 = .ok (.if_icmp .ne 45, 3) := by decide +kernel
theorem dX5_isReady_23 : decode cX5_isReady 23 = .ok (.iload_n 2, 1) := by decide +kernel
theorem dX5_isReady_24 : decode cX5_isReady 24 = .ok (.bipush (-9), 2) := by decide +kernel
theorem dX5_isReady_26 : decode cX5_isReady 26 = .ok (.if_icmp .eq 39, 3) := by decide +kernel
theorem dX5_isReady_29 : decode cX5_isReady 29 = .ok (.aload_n 0, 1) := by decide +kernel
theorem dX5_isReady_30 : decode cX5_isReady 30 = .ok (.getfield 7, 3) := by decide +kernel
theorem dX5_isReady_33 : decode cX5_isReady 33 = .ok (.sipush 428, 3) := by decide +kernel
theorem dX5_isReady_36 : decode cX5_isReady 36 = .ok (.iaload, 1) := by decide +kernel
theorem dX5_isReady_37 : decode cX5_isReady 37 = .ok (.iconst 4, 1) := by decide +kernel
theorem dX5_isReady_38 : decode cX5_isReady 38 = .ok (.if_icmp .lt 23, 3) := by decide +kernel
theorem dX5_isReady_41 : decode cX5_isReady 41 = .ok (.aload_n 0, 1) := by decide +kernel
theorem dX5_isReady_42 : decode cX5_isReady 42 = .ok (.getfield 7, 3) := by decide +kernel
theorem dX5_isReady_45 : decode cX5_isReady 45 = .ok (.iload_n 2, 1) := by decide +kernel
theorem dX5_isReady_46 : decode cX5_isReady 46 = .ok (.bipush 12, 2) := by decide +kernel
theorem dX5_isReady_48 : decode cX5_isReady 48 = .ok (.iadd, 1) := by decide +kernel
theorem dX5_isReady_49 : decode cX5_isReady 49 = .ok (.iaload, 1) := by decide +kernel
theorem dX5_isReady_50 : decode cX5_isReady 50 = .ok (.aload_n 0, 1) := by decide +kernel
theorem dX5_isReady_51 : decode cX5_isReady 51 = .ok (.getfield 7, 3) := by decide +kernel
theorem dX5_isReady_54 : decode cX5_isReady 54 = .ok (.iload_n 3, 1) := by decide +kernel
theorem dX5_isReady_55 : decode cX5_isReady 55 = .ok (.iconst 2, 1) := by decide +kernel
theorem dX5_isReady_56 : decode cX5_isReady 56 = .ok (.iadd, 1) := by decide +kernel
theorem dX5_isReady_57 : decode cX5_isReady 57 = .ok (.iaload, 1) := by decide +kernel
theorem dX5_isReady_58 : decode cX5_isReady 58 = .ok (.if_icmp .le 7, 3) := by decide +kernel
theorem dX5_isReady_61 : decode cX5_isReady 61 = .ok (.iconst 1, 1) := by decide +kernel
theorem dX5_isReady_62 : decode cX5_isReady 62 = .ok (.goto 4, 3) := by decide +kernel
theorem dX5_isReady_65 : decode cX5_isReady 65 = .ok (.iconst 0, 1) := by decide +kernel
theorem dX5_isReady_66 : decode cX5_isReady 66 = .ok (.ireturn, 1) := by decide +kernel
theorem dX5_writes_0 : decode cX5_writes 0 = .ok (.aload_n 0, 1) := by decide +kernel
theorem dX5_writes_1 : decode cX5_writes 1 = .ok (.getfield 7, 3) := by decide +kernel
theorem dX5_writes_4 : decode cX5_writes 4 = .ok (.sipush 429, 3) := by decide +kernel
theorem dX5_writes_7 : decode cX5_writes 7 = .ok (.iload_n 1, 1) := by decide +kernel
theorem dX5_writes_8 : decode cX5_writes 8 = .ok (.iadd, 1) := by decide +kernel
theorem dX5_writes_9 : decode cX5_writes 9 = .ok (.iaload, 1) := by decide +kernel
theorem dX5_writes_10 : decode cX5_writes 10 = .ok (.istore_n 2, 1) := by decide +kernel
theorem dX5_writes_11 : decode cX5_writes 11 = .ok (.bipush 92, 2) := by decide +kernel
theorem dX5_writes_13 : decode cX5_writes 13 = .ok (.bipush 14, 2) := by decide +kernel
theorem dX5_writes_15 : decode cX5_writes 15 = .ok (.iload_n 2, 1) := by decide +kernel
theorem dX5_writes_16 : decode cX5_writes 16 = .ok (.imul, 1) := by decide +kernel
theorem dX5_writes_17 : decode cX5_writes 17 = .ok (.iadd, 1) := by decide +kernel
theorem dX5_writes_18 : decode cX5_writes 18 = .ok (.istore_n 3, 1) := by decide +kernel
theorem dX5_writes_19 : decode cX5_writes 19 = .ok (.aload_n 0, 1) := by decide +kernel
theorem dX5_writes_20 : decode cX5_writes 20 = .ok (.getfield 7, 3) := by decide +kernel
theorem dX5_writes_23 : decode cX5_writes 23 = .ok (.iload_n 3, 1) := by decide +kernel
theorem dX5_writes_24 : decode cX5_writes 24 = .ok (.bipush 10, 2) := by decide +kernel
theorem dX5_writes_26 : decode cX5_writes 26 = .ok (.iadd, 1) := by decide +kernel
theorem dX5_writes_27 : decode cX5_writes 27 = .ok (.iconst 0, 1) := by decide +kernel
theorem dX5_writes_28 : decode cX5_writes 28 = .ok (.iastore, 1) := by decide +kernel
theorem dX5_writes_29 : decode cX5_writes 29 = .ok (.aload_n 0, 1) := by decide +kernel
theorem dX5_writes_30 : decode cX5_writes 30 = .ok (.getfield 7, 3) := by decide +kernel
theorem dX5_writes_33 : decode cX5_writes 33 = .ok (.iload_n 3, 1) := by decide +kernel
theorem dX5_writes_34 : decode cX5_writes 34 = .ok (.bipush 11, 2) := by decide +kernel
theorem dX5_writes_36 : decode cX5_writes 36 = .ok (.iadd, 1) := by decide +kernel
theorem dX5_writes_37 : decode cX5_writes 37 = .ok (.iconst 1, 1) := by decide +kernel
theorem dX5_writes_38 : decode cX5_writes 38 = .ok (.iastore, 1) := by decide +kernel
theorem dX5_writes_39 : decode cX5_writes 39 = .ok (.aload_n 0, 1) := by decide +kernel
theorem dX5_writes_40 : decode cX5_writes 40 = .ok (.getfield 7, 3) := by decide +kernel
theorem dX5_writes_43 : decode cX5_writes 43 = .ok (.iload_n 3, 1) := by decide +kernel
theorem dX5_writes_44 : decode cX5_writes 44 = .ok (.bipush 13, 2) := by decide +kernel
theorem dX5_writes_46 : decode cX5_writes 46 = .ok (.iadd, 1) := by decide +kernel
theorem dX5_writes_47 : decode cX5_writes 47 = .ok (.iconst 0, 1) := by decide +kernel
theorem dX5_writes_48 : decode cX5_writes 48 = .ok (.iastore, 1) := by decide +kernel
theorem dX5_writes_49 : decode cX5_writes 49 = .ok (.aload_n 0, 1) := by decide +kernel
theorem dX5_writes_50 : decode cX5_writes 50 = .ok (.getfield 7, 3) := by decide +kernel
theorem dX5_writes_53 : decode cX5_writes 53 = .ok (.iload_n 2, 1) := by decide +kernel
theorem dX5_writes_54 : decode cX5_writes 54 = .ok (.bipush 6, 2) := by decide +kernel
theorem dX5_writes_56 : decode cX5_writes 56 = .ok (.idiv, 1) := by decide +kernel
theorem dX5_writes_57 : decode cX5_writes 57 = .ok (.invokestatic 75, 3) := by decide +kernel
theorem dX5_writes_60 : decode cX5_writes 60 = .ok (.iconst 5, 1) := by decide +kernel
theorem dX5_writes_61 : decode cX5_writes 61 = .ok (.iadd, 1) := by decide +kernel
theorem dX5_writes_62 : decode cX5_writes 62 = .ok (.dup2, 1) := by decide +kernel
theorem dX5_writes_63 : decode cX5_writes 63 = .ok (.iaload, 1) := by decide +kernel
theorem dX5_writes_64 : decode cX5_writes 64 = .ok (.aload_n 0, 1) := by decide +kernel
theorem dX5_writes_65 : decode cX5_writes 65 = .ok (.getfield 7, 3) := by decide +kernel
theorem dX5_writes_68 : decode cX5_writes 68 = .ok (.iload_n 3, 1) := by decide +kernel
theorem dX5_writes_69 : decode cX5_writes 69 = .ok (.bipush 9, 2) := by decide +kernel
theorem dX5_writes_71 : decode cX5_writes 71 = .ok (.iadd, 1) := by decide +kernel
theorem dX5_writes_72 : decode cX5_writes 72 = .ok (.iaload, 1) := by decide +kernel
theorem dX5_writes_73 : decode cX5_writes 73 = .ok (.ifCond .ne 7, 3) := by decide +kernel
theorem dX5_writes_76 : decode cX5_writes 76 = .ok (.iconst 1, 1) := by decide +kernel
theorem dX5_writes_77 : decode cX5_writes 77 = .ok (.goto 4, 3) := by decide +kernel
theorem dX5_writes_80 : decode cX5_writes 80 = .ok (.iconst 0, 1) := by decide +kernel
theorem dX5_writes_81 : decode cX5_writes 81 = .ok (.iadd, 1) := by decide +kernel
theorem dX5_writes_82 : decode cX5_writes 82 = .ok (.iastore, 1) := by decide +kernel
theorem dX5_writes_83 : decode cX5_writes 83 = .ok (.aload_n 0, 1) := by decide +kernel
theorem dX5_writes_84 : decode cX5_writes 84 = .ok (.getfield 7, 3) := by decide +kernel
theorem dX5_writes_87 : decode cX5_writes 87 = .ok (.sipush 428, 3) := by decide +kernel
theorem dX5_writes_90 : decode cX5_writes 90 = .ok (.dup2, 1) := by decide +kernel
theorem dX5_writes_91 : decode cX5_writes 91 = .ok (.iaload, 1) := by decide +kernel
theorem dX5_writes_92 : decode cX5_writes 92 = .ok (.iconst 1, 1) := by decide +kernel
theorem dX5_writes_93 : decode cX5_writes 93 = .ok (.isub, 1) := by decide +kernel
theorem dX5_writes_94 : decode cX5_writes 94 = .ok (.iastore, 1) := by decide +kernel
theorem dX5_writes_95 : decode cX5_writes 95 = .ok (.iload_n 1, 1) := by decide +kernel
theorem dX5_writes_96 : decode cX5_writes 96 = .ok (.istore 4, 2) := by decide +kernel
theorem dX5_writes_98 : decode cX5_writes 98 = .ok (.iload 4, 2) := by decide +kernel
theorem dX5_writes_100 : decode cX5_writes 100 = .ok (.aload_n 0, 1) := by decide +kernel
theorem dX5_writes_101 : decode cX5_writes 101 = .ok (.getfield 7, 3) := by decide +kernel
theorem dX5_writes_104 : decode cX5_writes 104 = .ok (.sipush 428, 3) := by decide +kernel
theorem dX5_writes_107 : decode cX5_writes 107 = .ok (.iaload, 1) := by decide +kernel
theorem dX5_writes_108 : decode cX5_writes 108 = .ok (.if_icmp .ge 33, 3) := by decide +kernel
theorem dX5_writes_111 : decode cX5_writes 111 = .ok (.aload_n 0, 1) := by decide +kernel
theorem dX5_writes_112 : decode cX5_writes 112 = .ok (.getfield 7, 3) := by decide +kernel
theorem dX5_writes_115 : decode cX5_writes 115 = .ok (.sipush 429, 3) := by decide +kernel
theorem dX5_writes_118 : decode cX5_writes 118 = .ok (.iload 4, 2) := by decide +kernel
theorem dX5_writes_120 : decode cX5_writes 120 = .ok (.iadd, 1) := by decide +kernel
theorem dX5_writes_121 : decode cX5_writes 121 = .ok (.aload_n 0, 1) := by decide +kernel
theorem dX5_writes_122 : decode cX5_writes 122 = .ok (.getfield 7, 3) := by decide +kernel
theorem dX5_writes_125 : decode cX5_writes 125 = .ok (.sipush 429, 3) := by decide +kernel
theorem dX5_writes_128 : decode cX5_writes 128 = .ok (.iload 4, 2) := by decide +kernel
theorem dX5_writes_130 : decode cX5_writes 130 = .ok (.iadd, 1) := by decide +kernel
theorem dX5_writes_131 : decode cX5_writes 131 = .ok (.iconst 1, 1) := by decide +kernel
theorem dX5_writes_132 : decode cX5_writes 132 = .ok (.iadd, 1) := by decide +kernel
theorem dX5_writes_133 : decode cX5_writes 133 = .ok (.iaload, 1) := by decide +kernel
theorem dX5_writes_134 : decode cX5_writes 134 = .ok (.iastore, 1) := by decide +kernel
theorem dX5_writes_135 : decode cX5_writes 135 = .ok (.iinc 4 1, 3) := by decide +kernel
theorem dX5_writes_138 : decode cX5_writes 138 = .ok (.goto (-40), 3) := by decide +kernel
theorem dX5_writes_141 : decode cX5_writes 141 = .ok (.return_, 1) := by decide +kernel
theorem dX5_around_0 : decode cX5_around 0 = .ok (.iload_n 0, 1) := by decide +kernel
theorem dX5_around_1 : decode cX5_around 1 = .ok (.bipush 64, 2) := by decide +kernel
theorem dX5_around_3 : decode cX5_around 3 = .ok (.irem, 1) := by decide +kernel
theorem dX5_around_4 : decode cX5_around 4 = .ok (.istore_n 1, 1) := by decide +kernel
theorem dX5_around_5 : decode cX5_around 5 = .ok (.iload_n 1, 1) := by decide +kernel
theorem dX5_around_6 : decode cX5_around 6 = .ok (.ifCond .ge 10, 3) := by decide +kernel
theorem dX5_around_9 : decode cX5_around 9 = .ok (.iload_n 1, 1) := by decide +kernel
theorem dX5_around_10 : decode cX5_around 10 = .ok (.bipush 64, 2) := by decide +kernel
theorem dX5_around_12 : decode cX5_around 12 = .ok (.iadd, 1) := by decide +kernel
theorem dX5_around_13 : decode cX5_around 13 = .ok (.goto 4, 3) := by decide +kernel
theorem dX5_around_16 : decode cX5_around 16 = .ok (.iload_n 1, 1) := by decide +kernel
theorem dX5_around_17 : decode cX5_around 17 = .ok (.ireturn, 1) := by decide +kernel
theorem dX5_addressOf_0 : decode cX5_addressOf 0 = .ok (.iload_n 2, 1) := by decide +kernel
theorem dX5_addressOf_1 : decode cX5_addressOf 1 = .ok (.aload_n 0, 1) := by decide +kernel
theorem dX5_addressOf_2 : decode cX5_addressOf 2 = .ok (.getfield 7, 3) := by decide +kernel
theorem dX5_addressOf_5 : decode cX5_addressOf 5 = .ok (.iload_n 1, 1) := by decide +kernel
theorem dX5_addressOf_6 : decode cX5_addressOf 6 = .ok (.iconst 3, 1) := by decide +kernel
theorem dX5_addressOf_7 : decode cX5_addressOf 7 = .ok (.iadd, 1) := by decide +kernel
theorem dX5_addressOf_8 : decode cX5_addressOf 8 = .ok (.iaload, 1) := by decide +kernel
theorem dX5_addressOf_9 : decode cX5_addressOf 9 = .ok (.idiv, 1) := by decide +kernel
theorem dX5_addressOf_10 : decode cX5_addressOf 10 = .ok (.istore 4, 2) := by decide +kernel
theorem dX5_addressOf_12 : decode cX5_addressOf 12 = .ok (.iload_n 2, 1) := by decide +kernel
theorem dX5_addressOf_13 : decode cX5_addressOf 13 = .ok (.aload_n 0, 1) := by decide +kernel
theorem dX5_addressOf_14 : decode cX5_addressOf 14 = .ok (.getfield 7, 3) := by decide +kernel
theorem dX5_addressOf_17 : decode cX5_addressOf 17 = .ok (.iload_n 1, 1) := by decide +kernel
theorem dX5_addressOf_18 : decode cX5_addressOf 18 = .ok (.iconst 3, 1) := by decide +kernel
theorem dX5_addressOf_19 : decode cX5_addressOf 19 = .ok (.iadd, 1) := by decide +kernel
theorem dX5_addressOf_20 : decode cX5_addressOf 20 = .ok (.iaload, 1) := by decide +kernel
theorem dX5_addressOf_21 : decode cX5_addressOf 21 = .ok (.irem, 1) := by decide +kernel
theorem dX5_addressOf_22 : decode cX5_addressOf 22 = .ok (.istore 5, 2) := by decide +kernel
theorem dX5_addressOf_24 : decode cX5_addressOf 24 = .ok (.iload_n 3, 1) := by decide +kernel
theorem dX5_addressOf_25 : decode cX5_addressOf 25 = .ok (.ifCond .ne 42, 3) := by decide +kernel
theorem dX5_addressOf_28 : decode cX5_addressOf 28 = .ok (.aload_n 0, 1) := by decide +kernel
theorem dX5_addressOf_29 : decode cX5_addressOf 29 = .ok (.getfield 7, 3) := by decide +kernel
theorem dX5_addressOf_32 : decode cX5_addressOf 32 = .ok (.iload_n 1, 1) := by decide +kernel
theorem dX5_addressOf_33 : decode cX5_addressOf 33 = .ok (.iconst 1, 1) := by decide +kernel
theorem dX5_addressOf_34 : decode cX5_addressOf 34 = .ok (.iadd, 1) := by decide +kernel
theorem dX5_addressOf_35 : decode cX5_addressOf 35 = .ok (.iaload, 1) := by decide +kernel
theorem dX5_addressOf_36 : decode cX5_addressOf 36 = .ok (.iload 4, 2) := by decide +kernel
theorem dX5_addressOf_38 : decode cX5_addressOf 38 = .ok (.aload_n 0, 1) := by decide +kernel
theorem dX5_addressOf_39 : decode cX5_addressOf 39 = .ok (.getfield 7, 3) := by decide +kernel
theorem dX5_addressOf_42 : decode cX5_addressOf 42 = .ok (.iload_n 1, 1) := by decide +kernel
theorem dX5_addressOf_43 : decode cX5_addressOf 43 = .ok (.bipush 7, 2) := by decide +kernel
theorem dX5_addressOf_45 : decode cX5_addressOf 45 = .ok (.iadd, 1) := by decide +kernel
theorem dX5_addressOf_46 : decode cX5_addressOf 46 = .ok (.iaload, 1) := by decide +kernel
theorem dX5_addressOf_47 : decode cX5_addressOf 47 = .ok (.imul, 1) := by decide +kernel
theorem dX5_addressOf_48 : decode cX5_addressOf 48 = .ok (.iadd, 1) := by decide +kernel
theorem dX5_addressOf_49 : decode cX5_addressOf 49 = .ok (.iload 5, 2) := by decide +kernel
theorem dX5_addressOf_51 : decode cX5_addressOf 51 = .ok (.aload_n 0, 1) := by decide +kernel
theorem dX5_addressOf_52 : decode cX5_addressOf 52 = .ok (.getfield 7, 3) := by decide +kernel
theorem dX5_addressOf_55 : decode cX5_addressOf 55 = .ok (.iload_n 1, 1) := by decide +kernel
theorem dX5_addressOf_56 : decode cX5_addressOf 56 = .ok (.iconst 4, 1) := by decide +kernel
theorem dX5_addressOf_57 : decode cX5_addressOf 57 = .ok (.iadd, 1) := by decide +kernel
theorem dX5_addressOf_58 : decode cX5_addressOf 58 = .ok (.iaload, 1) := by decide +kernel
theorem dX5_addressOf_59 : decode cX5_addressOf 59 = .ok (.imul, 1) := by decide +kernel
theorem dX5_addressOf_60 : decode cX5_addressOf 60 = .ok (.iadd, 1) := by decide +kernel
theorem dX5_addressOf_61 : decode cX5_addressOf 61 = .ok (.invokestatic 117, 3) := by decide +kernel
theorem dX5_addressOf_64 : decode cX5_addressOf 64 = .ok (.goto 39, 3) := by decide +kernel
theorem dX5_addressOf_67 : decode cX5_addressOf 67 = .ok (.aload_n 0, 1) := by decide +kernel
theorem dX5_addressOf_68 : decode cX5_addressOf 68 = .ok (.getfield 7, 3) := by decide +kernel
theorem dX5_addressOf_71 : decode cX5_addressOf 71 = .ok (.iload_n 1, 1) := by decide +kernel
theorem dX5_addressOf_72 : decode cX5_addressOf 72 = .ok (.iconst 2, 1) := by decide +kernel
theorem dX5_addressOf_73 : decode cX5_addressOf 73 = .ok (.iadd, 1) := by decide +kernel
theorem dX5_addressOf_74 : decode cX5_addressOf 74 = .ok (.iaload, 1) := by decide +kernel
theorem dX5_addressOf_75 : decode cX5_addressOf 75 = .ok (.iload 4, 2) := by decide +kernel
theorem dX5_addressOf_77 : decode cX5_addressOf 77 = .ok (.aload_n 0, 1) := by decide +kernel
theorem dX5_addressOf_78 : decode cX5_addressOf 78 = .ok (.getfield 7, 3) := by decide +kernel
theorem dX5_addressOf_81 : decode cX5_addressOf 81 = .ok (.iload_n 1, 1) := by decide +kernel
theorem dX5_addressOf_82 : decode cX5_addressOf 82 = .ok (.bipush 8, 2) := by decide +kernel
theorem dX5_addressOf_84 : decode cX5_addressOf 84 = .ok (.iadd, 1) := by decide +kernel
theorem dX5_addressOf_85 : decode cX5_addressOf 85 = .ok (.iaload, 1) := by decide +kernel
theorem dX5_addressOf_86 : decode cX5_addressOf 86 = .ok (.imul, 1) := by decide +kernel
theorem dX5_addressOf_87 : decode cX5_addressOf 87 = .ok (.iadd, 1) := by decide +kernel
theorem dX5_addressOf_88 : decode cX5_addressOf 88 = .ok (.iload 5, 2) := by decide +kernel
theorem dX5_addressOf_90 : decode cX5_addressOf 90 = .ok (.aload_n 0, 1) := by decide +kernel
theorem dX5_addressOf_91 : decode cX5_addressOf 91 = .ok (.getfield 7, 3) := by decide +kernel
theorem dX5_addressOf_94 : decode cX5_addressOf 94 = .ok (.iload_n 1, 1) := by decide +kernel
theorem dX5_addressOf_95 : decode cX5_addressOf 95 = .ok (.iconst 5, 1) := by decide +kernel
theorem dX5_addressOf_96 : decode cX5_addressOf 96 = .ok (.iadd, 1) := by decide +kernel
theorem dX5_addressOf_97 : decode cX5_addressOf 97 = .ok (.iaload, 1) := by decide +kernel
theorem dX5_addressOf_98 : decode cX5_addressOf 98 = .ok (.imul, 1) := by decide +kernel
theorem dX5_addressOf_99 : decode cX5_addressOf 99 = .ok (.iadd, 1) := by decide +kernel
theorem dX5_addressOf_100 : decode cX5_addressOf 100 = .ok (.invokestatic 117, 3) := by decide +kernel
theorem dX5_addressOf_103 : decode cX5_addressOf 103 = .ok (.ireturn, 1) := by decide +kernel
theorem dX5_unitsOf_0 : decode cX5_unitsOf 0 = .ok (.aload_n 0, 1) := by decide +kernel
theorem dX5_unitsOf_1 : decode cX5_unitsOf 1 = .ok (.getfield 7, 3) := by decide +kernel
theorem dX5_unitsOf_4 : decode cX5_unitsOf 4 = .ok (.iload_n 1, 1) := by decide +kernel
theorem dX5_unitsOf_5 : decode cX5_unitsOf 5 = .ok (.iconst 3, 1) := by decide +kernel
theorem dX5_unitsOf_6 : decode cX5_unitsOf 6 = .ok (.iadd, 1) := by decide +kernel
theorem dX5_unitsOf_7 : decode cX5_unitsOf 7 = .ok (.iaload, 1) := by decide +kernel
theorem dX5_unitsOf_8 : decode cX5_unitsOf 8 = .ok (.aload_n 0, 1) := by decide +kernel
theorem dX5_unitsOf_9 : decode cX5_unitsOf 9 = .ok (.getfield 7, 3) := by decide +kernel
theorem dX5_unitsOf_12 : decode cX5_unitsOf 12 = .ok (.iload_n 1, 1) := by decide +kernel
theorem dX5_unitsOf_13 : decode cX5_unitsOf 13 = .ok (.bipush 6, 2) := by decide +kernel
theorem dX5_unitsOf_15 : decode cX5_unitsOf 15 = .ok (.iadd, 1) := by decide +kernel
theorem dX5_unitsOf_16 : decode cX5_unitsOf 16 = .ok (.iaload, 1) := by decide +kernel
theorem dX5_unitsOf_17 : decode cX5_unitsOf 17 = .ok (.imul, 1) := by decide +kernel
theorem dX5_unitsOf_18 : decode cX5_unitsOf 18 = .ok (.ireturn, 1) := by decide +kernel
theorem dX5_carries_0 : decode cX5_carries 0 = .ok (.iload_n 1, 1) := by decide +kernel
theorem dX5_carries_1 : decode cX5_carries 1 = .ok (.invokestatic 75, 3) := by decide +kernel
theorem dX5_carries_4 : decode cX5_carries 4 = .ok (.istore_n 2, 1) := by decide +kernel
theorem dX5_carries_5 : decode cX5_carries 5 = .ok (.aload_n 0, 1) := by decide +kernel
theorem dX5_carries_6 : decode cX5_carries 6 = .ok (.iload_n 1, 1) := by decide +kernel
theorem dX5_carries_7 : decode cX5_carries 7 = .ok (.invokevirtual 114, 3) := by decide +kernel
theorem dX5_carries_10 : decode cX5_carries 10 = .ok (.istore_n 3, 1) := by decide +kernel
theorem dX5_carries_11 : decode cX5_carries 11 = .ok (.aload_n 0, 1) := by decide +kernel
theorem dX5_carries_12 : decode cX5_carries 12 = .ok (.getfield 7, 3) := by decide +kernel
theorem dX5_carries_15 : decode cX5_carries 15 = .ok (.iload_n 2, 1) := by decide +kernel
theorem dX5_carries_16 : decode cX5_carries 16 = .ok (.iconst 2, 1) := by decide +kernel
theorem dX5_carries_17 : decode cX5_carries 17 = .ok (.iadd, 1) := by decide +kernel
theorem dX5_carries_18 : decode cX5_carries 18 = .ok (.iaload, 1) := by decide +kernel
theorem dX5_carries_19 : decode cX5_carries 19 = .ok (.aload_n 0, 1) := by decide +kernel
theorem dX5_carries_20 : decode cX5_carries 20 = .ok (.getfield 7, 3) := by decide +kernel
theorem dX5_carries_23 : decode cX5_carries 23 = .ok (.iload_n 3, 1) := by decide +kernel
theorem dX5_carries_24 : decode cX5_carries 24 = .ok (.bipush 12, 2) := by decide +kernel
theorem dX5_carries_26 : decode cX5_carries 26 = .ok (.iadd, 1) := by decide +kernel
theorem dX5_carries_27 : decode cX5_carries 27 = .ok (.iaload, 1) := by decide +kernel
theorem dX5_carries_28 : decode cX5_carries 28 = .ok (.if_icmp .ge 14, 3) := by decide +kernel
theorem dX5_carries_31 : decode cX5_carries 31 = .ok (.aload_n 0, 1) := by decide +kernel
theorem dX5_carries_32 : decode cX5_carries 32 = .ok (.getfield 7, 3) := by decide +kernel
theorem dX5_carries_35 : decode cX5_carries 35 = .ok (.iload_n 2, 1) := by decide +kernel
theorem dX5_carries_36 : decode cX5_carries 36 = .ok (.iconst 2, 1) := by decide +kernel
theorem dX5_carries_37 : decode cX5_carries 37 = .ok (.iadd, 1) := by decide +kernel
theorem dX5_carries_38 : decode cX5_carries 38 = .ok (.iaload, 1) := by decide +kernel
theorem dX5_carries_39 : decode cX5_carries 39 = .ok (.goto 12, 3) := by decide +kernel
theorem dX5_carries_42 : decode cX5_carries 42 = .ok (.aload_n 0, 1) := by decide +kernel
theorem dX5_carries_43 : decode cX5_carries 43 = .ok (.getfield 7, 3) := by decide +kernel
theorem dX5_carries_46 : decode cX5_carries 46 = .ok (.iload_n 3, 1) := by decide +kernel
theorem dX5_carries_47 : decode cX5_carries 47 = .ok (.bipush 12, 2) := by decide +kernel
theorem dX5_carries_49 : decode cX5_carries 49 = .ok (.iadd, 1) := by decide +kernel
theorem dX5_carries_50 : decode cX5_carries 50 = .ok (.iaload, 1) := by decide +kernel
theorem dX5_carries_51 : decode cX5_carries 51 = .ok (.istore 4, 2) := by decide +kernel
theorem dX5_carries_53 : decode cX5_carries 53 = .ok (.iconst 0, 1) := by decide +kernel
theorem dX5_carries_54 : decode cX5_carries 54 = .ok (.istore 5, 2) := by decide +kernel
theorem dX5_carries_56 : decode cX5_carries 56 = .ok (.iload 5, 2) := by decide +kernel
theorem dX5_carries_58 : decode cX5_carries 58 = .ok (.iload 4, 2) := by decide +kernel
theorem dX5_carries_60 : decode cX5_carries 60 = .ok (.if_icmp .ge 65, 3) := by decide +kernel
theorem dX5_carries_63 : decode cX5_carries 63 = .ok (.aload_n 0, 1) := by decide +kernel
theorem dX5_carries_64 : decode cX5_carries 64 = .ok (.iload_n 3, 1) := by decide +kernel
theorem dX5_carries_65 : decode cX5_carries 65 = .ok (.invokevirtual 120, 3) := by decide +kernel
theorem dX5_carries_68 : decode cX5_carries 68 = .ok (.aload_n 0, 1) := by decide +kernel
theorem dX5_carries_69 : decode cX5_carries 69 = .ok (.getfield 7, 3) := by decide +kernel
theorem dX5_carries_72 : decode cX5_carries 72 = .ok (.iload_n 3, 1) := by decide +kernel
theorem dX5_carries_73 : decode cX5_carries 73 = .ok (.bipush 12, 2) := by decide +kernel
theorem dX5_carries_75 : decode cX5_carries 75 = .ok (.iadd, 1) := by decide +kernel
theorem dX5_carries_76 : decode cX5_carries 76 = .ok (.iaload, 1) := by decide +kernel
theorem dX5_carries_77 : decode cX5_carries 77 = .ok (.isub, 1) := by decide +kernel
theorem dX5_carries_78 : decode cX5_carries 78 = .ok (.istore 6, 2) := by decide +kernel
theorem dX5_carries_80 : decode cX5_carries 80 = .ok (.aload_n 0, 1) := by decide +kernel
theorem dX5_carries_81 : decode cX5_carries 81 = .ok (.getfield 7, 3) := by decide +kernel
theorem dX5_carries_84 : decode cX5_carries 84 = .ok (.aload_n 0, 1) := by decide +kernel
theorem dX5_carries_85 : decode cX5_carries 85 = .ok (.iload_n 3, 1) := by decide +kernel
theorem dX5_carries_86 : decode cX5_carries 86 = .ok (.iload 6, 2) := by decide +kernel
theorem dX5_carries_88 : decode cX5_carries 88 = .ok (.iconst 1, 1) := by decide +kernel
theorem dX5_carries_89 : decode cX5_carries 89 = .ok (.invokevirtual 123, 3) := by decide +kernel
theorem dX5_carries_92 : decode cX5_carries 92 = .ok (.aload_n 0, 1) := by decide +kernel
theorem dX5_carries_93 : decode cX5_carries 93 = .ok (.getfield 7, 3) := by decide +kernel
theorem dX5_carries_96 : decode cX5_carries 96 = .ok (.aload_n 0, 1) := by decide +kernel
theorem dX5_carries_97 : decode cX5_carries 97 = .ok (.iload_n 3, 1) := by decide +kernel
theorem dX5_carries_98 : decode cX5_carries 98 = .ok (.iload 6, 2) := by decide +kernel
theorem dX5_carries_100 : decode cX5_carries 100 = .ok (.iconst 0, 1) := by decide +kernel
theorem dX5_carries_101 : decode cX5_carries 101 = .ok (.invokevirtual 123, 3) := by decide +kernel
theorem dX5_carries_104 : decode cX5_carries 104 = .ok (.iaload, 1) := by decide +kernel
theorem dX5_carries_105 : decode cX5_carries 105 = .ok (.iastore, 1) := by decide +kernel
theorem dX5_carries_106 : decode cX5_carries 106 = .ok (.aload_n 0, 1) := by decide +kernel
theorem dX5_carries_107 : decode cX5_carries 107 = .ok (.getfield 7, 3) := by decide +kernel
theorem dX5_carries_110 : decode cX5_carries 110 = .ok (.iload_n 3, 1) := by decide +kernel
theorem dX5_carries_111 : decode cX5_carries 111 = .ok (.bipush 12, 2) := by decide +kernel
theorem dX5_carries_113 : decode cX5_carries 113 = .ok (.iadd, 1) := by decide +kernel
theorem dX5_carries_114 : decode cX5_carries 114 = .ok (.dup2, 1) := by decide +kernel
theorem dX5_carries_115 : decode cX5_carries 115 = .ok (.iaload, 1) := by decide +kernel
theorem dX5_carries_116 : decode cX5_carries 116 = .ok (.iconst 1, 1) := by decide +kernel
theorem dX5_carries_117 : decode cX5_carries 117 = .ok (.isub, 1) := by decide +kernel
theorem dX5_carries_118 : decode cX5_carries 118 = .ok (.iastore, 1) := by decide +kernel
theorem dX5_carries_119 : decode cX5_carries 119 = .ok (.iinc 5 1, 3) := by decide +kernel
theorem dX5_carries_122 : decode cX5_carries 122 = .ok (.goto (-66), 3) := by decide +kernel
theorem dX5_carries_125 : decode cX5_carries 125 = .ok (.aload_n 0, 1) := by decide +kernel
theorem dX5_carries_126 : decode cX5_carries 126 = .ok (.getfield 7, 3) := by decide +kernel
theorem dX5_carries_129 : decode cX5_carries 129 = .ok (.iload_n 2, 1) := by decide +kernel
theorem dX5_carries_130 : decode cX5_carries 130 = .ok (.bipush 6, 2) := by decide +kernel
theorem dX5_carries_132 : decode cX5_carries 132 = .ok (.iadd, 1) := by decide +kernel
theorem dX5_carries_133 : decode cX5_carries 133 = .ok (.dup2, 1) := by decide +kernel
theorem dX5_carries_134 : decode cX5_carries 134 = .ok (.iaload, 1) := by decide +kernel
theorem dX5_carries_135 : decode cX5_carries 135 = .ok (.iconst 1, 1) := by decide +kernel
theorem dX5_carries_136 : decode cX5_carries 136 = .ok (.iadd, 1) := by decide +kernel
theorem dX5_carries_137 : decode cX5_carries 137 = .ok (.iastore, 1) := by decide +kernel
theorem dX5_carries_138 : decode cX5_carries 138 = .ok (.aload_n 0, 1) := by decide +kernel
theorem dX5_carries_139 : decode cX5_carries 139 = .ok (.getfield 7, 3) := by decide +kernel
theorem dX5_carries_142 : decode cX5_carries 142 = .ok (.sipush 453, 3) := by decide +kernel
theorem dX5_carries_145 : decode cX5_carries 145 = .ok (.iload_n 1, 1) := by decide +kernel
theorem dX5_carries_146 : decode cX5_carries 146 = .ok (.iastore, 1) := by decide +kernel
theorem dX5_carries_147 : decode cX5_carries 147 = .ok (.aload_n 0, 1) := by decide +kernel
theorem dX5_carries_148 : decode cX5_carries 148 = .ok (.getfield 7, 3) := by decide +kernel
theorem dX5_carries_151 : decode cX5_carries 151 = .ok (.iload_n 3, 1) := by decide +kernel
theorem dX5_carries_152 : decode cX5_carries 152 = .ok (.bipush 12, 2) := by decide +kernel
theorem dX5_carries_154 : decode cX5_carries 154 = .ok (.iadd, 1) := by decide +kernel
theorem dX5_carries_155 : decode cX5_carries 155 = .ok (.iaload, 1) := by decide +kernel
theorem dX5_carries_156 : decode cX5_carries 156 = .ok (.ifCond .ne 76, 3) := by decide +kernel
theorem dX5_carries_159 : decode cX5_carries 159 = .ok (.aload_n 0, 1) := by decide +kernel
theorem dX5_carries_160 : decode cX5_carries 160 = .ok (.getfield 7, 3) := by decide +kernel
theorem dX5_carries_163 : decode cX5_carries 163 = .ok (.iload_n 3, 1) := by decide +kernel
theorem dX5_carries_164 : decode cX5_carries 164 = .ok (.bipush 13, 2) := by decide +kernel
theorem dX5_carries_166 : decode cX5_carries 166 = .ok (.iadd, 1) := by decide +kernel
theorem dX5_carries_167 : decode cX5_carries 167 = .ok (.iconst 1, 1) := by decide +kernel
theorem dX5_carries_168 : decode cX5_carries 168 = .ok (.iastore, 1) := by decide +kernel
theorem dX5_carries_169 : decode cX5_carries 169 = .ok (.aload_n 0, 1) := by decide +kernel
theorem dX5_carries_170 : decode cX5_carries 170 = .ok (.getfield 7, 3) := by decide +kernel
theorem dX5_carries_173 : decode cX5_carries 173 = .ok (.sipush 429, 3) := by decide +kernel
theorem dX5_carries_176 : decode cX5_carries 176 = .ok (.aload_n 0, 1) := by decide +kernel
theorem dX5_carries_177 : decode cX5_carries 177 = .ok (.getfield 7, 3) := by decide +kernel
theorem dX5_carries_180 : decode cX5_carries 180 = .ok (.sipush 428, 3) := by decide +kernel
theorem dX5_carries_183 : decode cX5_carries 183 = .ok (.iaload, 1) := by decide +kernel
theorem dX5_carries_184 : decode cX5_carries 184 = .ok (.iadd, 1) := by decide +kernel
theorem dX5_carries_185 : decode cX5_carries 185 = .ok (.bipush 6, 2) := by decide +kernel
theorem dX5_carries_187 : decode cX5_carries 187 = .ok (.iload_n 1, 1) := by decide +kernel
theorem dX5_carries_188 : decode cX5_carries 188 = .ok (.imul, 1) := by decide +kernel
theorem dX5_carries_189 : decode cX5_carries 189 = .ok (.aload_n 0, 1) := by decide +kernel
theorem dX5_carries_190 : decode cX5_carries 190 = .ok (.getfield 7, 3) := by decide +kernel
theorem dX5_carries_193 : decode cX5_carries 193 = .ok (.iload_n 2, 1) := by decide +kernel
theorem dX5_carries_194 : decode cX5_carries 194 = .ok (.iconst 4, 1) := by decide +kernel
theorem dX5_carries_195 : decode cX5_carries 195 = .ok (.iadd, 1) := by decide +kernel
theorem dX5_carries_196 : decode cX5_carries 196 = .ok (.iaload, 1) := by decide +kernel
theorem dX5_carries_197 : decode cX5_carries 197 = .ok (.iadd, 1) := by decide +kernel
theorem dX5_carries_198 : decode cX5_carries 198 = .ok (.iastore, 1) := by decide +kernel
theorem dX5_carries_199 : decode cX5_carries 199 = .ok (.aload_n 0, 1) := by decide +kernel
theorem dX5_carries_200 : decode cX5_carries 200 = .ok (.getfield 7, 3) := by decide +kernel
theorem dX5_carries_203 : decode cX5_carries 203 = .ok (.sipush 428, 3) := by decide +kernel
theorem dX5_carries_206 : decode cX5_carries 206 = .ok (.dup2, 1) := by decide +kernel
theorem dX5_carries_207 : decode cX5_carries 207 = .ok (.iaload, 1) := by decide +kernel
theorem dX5_carries_208 : decode cX5_carries 208 = .ok (.iconst 1, 1) := by decide +kernel
theorem dX5_carries_209 : decode cX5_carries 209 = .ok (.iadd, 1) := by decide +kernel
theorem dX5_carries_210 : decode cX5_carries 210 = .ok (.iastore, 1) := by decide +kernel
theorem dX5_carries_211 : decode cX5_carries 211 = .ok (.aload_n 0, 1) := by decide +kernel
theorem dX5_carries_212 : decode cX5_carries 212 = .ok (.getfield 7, 3) := by decide +kernel
theorem dX5_carries_215 : decode cX5_carries 215 = .ok (.iload_n 2, 1) := by decide +kernel
theorem dX5_carries_216 : decode cX5_carries 216 = .ok (.iconst 4, 1) := by decide +kernel
theorem dX5_carries_217 : decode cX5_carries 217 = .ok (.iadd, 1) := by decide +kernel
theorem dX5_carries_218 : decode cX5_carries 218 = .ok (.aload_n 0, 1) := by decide +kernel
theorem dX5_carries_219 : decode cX5_carries 219 = .ok (.getfield 7, 3) := by decide +kernel
theorem dX5_carries_222 : decode cX5_carries 222 = .ok (.iload_n 2, 1) := by decide +kernel
theorem dX5_carries_223 : decode cX5_carries 223 = .ok (.iconst 4, 1) := by decide +kernel
theorem dX5_carries_224 : decode cX5_carries 224 = .ok (.iadd, 1) := by decide +kernel
theorem dX5_carries_225 : decode cX5_carries 225 = .ok (.iaload, 1) := by decide +kernel
theorem dX5_carries_226 : decode cX5_carries 226 = .ok (.iconst 1, 1) := by decide +kernel
theorem dX5_carries_227 : decode cX5_carries 227 = .ok (.iadd, 1) := by decide +kernel
theorem dX5_carries_228 : decode cX5_carries 228 = .ok (.bipush 6, 2) := by decide +kernel
theorem dX5_carries_230 : decode cX5_carries 230 = .ok (.irem, 1) := by decide +kernel
theorem dX5_carries_231 : decode cX5_carries 231 = .ok (.iastore, 1) := by decide +kernel
theorem dX5_carries_232 : decode cX5_carries 232 = .ok (.return_, 1) := by decide +kernel
theorem dX5_ticksOnce_0 : decode cX5_ticksOnce 0 = .ok (.aload_n 0, 1) := by decide +kernel
theorem dX5_ticksOnce_1 : decode cX5_ticksOnce 1 = .ok (.getfield 7, 3) := by decide +kernel
theorem dX5_ticksOnce_4 : decode cX5_ticksOnce 4 = .ok (.sipush 428, 3) := by decide +kernel
theorem dX5_ticksOnce_7 : decode cX5_ticksOnce 7 = .ok (.iaload, 1) := by decide +kernel
theorem dX5_ticksOnce_8 : decode cX5_ticksOnce 8 = .ok (.ifCond .le 8, 3) := by decide +kernel
theorem dX5_ticksOnce_11 : decode cX5_ticksOnce 11 = .ok (.aload_n 0, 1) := by decide +kernel
theorem dX5_ticksOnce_12 : decode cX5_ticksOnce 12 = .ok (.iconst 0, 1) := by decide +kernel
theorem dX5_ticksOnce_13 : decode cX5_ticksOnce 13 = .ok (.invokevirtual 127, 3) := by decide +kernel
theorem dX5_ticksOnce_16 : decode cX5_ticksOnce 16 = .ok (.bipush (-9), 2) := by decide +kernel
theorem dX5_ticksOnce_18 : decode cX5_ticksOnce 18 = .ok (.istore_n 1, 1) := by decide +kernel
theorem dX5_ticksOnce_19 : decode cX5_ticksOnce 19 = .ok (.iconst 1, 1) := by decide +kernel
theorem dX5_ticksOnce_20 : decode cX5_ticksOnce 20 = .ok (.istore_n 2, 1) := by decide +kernel
theorem dX5_ticksOnce_21 : decode cX5_ticksOnce 21 = .ok (.iload_n 2, 1) := by decide +kernel
theorem dX5_ticksOnce_22 : decode cX5_ticksOnce 22 = .ok (.iconst 4, 1) := by decide +kernel
theorem dX5_ticksOnce_23 : decode cX5_ticksOnce 23 = .ok (.if_icmp .gt 79, 3) := by decide +kernel
theorem dX5_ticksOnce_26 : decode cX5_ticksOnce 26 = .ok (.aload_n 0, 1) := by decide +kernel
theorem dX5_ticksOnce_27 : decode cX5_ticksOnce 27 = .ok (.getfield 7, 3) := by decide +kernel
theorem dX5_ticksOnce_30 : decode cX5_ticksOnce 30 = .ok (.sipush 453, 3) := by decide +kernel
theorem dX5_ticksOnce_33 : decode cX5_ticksOnce 33 = .ok (.iaload, 1) := by decide +kernel
theorem dX5_ticksOnce_34 : decode cX5_ticksOnce 34 = .ok (.iload_n 2, 1) := by decide +kernel
theorem dX5_ticksOnce_35 : decode cX5_ticksOnce 35 = .ok (.iadd, 1) := by decide +kernel
theorem dX5_ticksOnce_36 : decode cX5_ticksOnce 36 = .ok (.iconst 4, 1) := by decide +kernel
theorem dX5_ticksOnce_37 : decode cX5_ticksOnce 37 = .ok (.irem, 1) := by decide +kernel
theorem dX5_ticksOnce_38 : decode cX5_ticksOnce 38 = .ok (.istore_n 3, 1) := by decide +kernel
theorem dX5_ticksOnce_39 : decode cX5_ticksOnce 39 = .ok (.aload_n 0, 1) := by decide +kernel
theorem dX5_ticksOnce_40 : decode cX5_ticksOnce 40 = .ok (.iload_n 3, 1) := by decide +kernel
theorem dX5_ticksOnce_41 : decode cX5_ticksOnce 41 = .ok (.invokevirtual 131, 3) := by decide +kernel
theorem dX5_ticksOnce_44 : decode cX5_ticksOnce 44 = .ok (.ifCond .eq 38, 3) := by decide +kernel
theorem dX5_ticksOnce_47 : decode cX5_ticksOnce 47 = .ok (.iload_n 1, 1) := by decide +kernel
theorem dX5_ticksOnce_48 : decode cX5_ticksOnce 48 = .ok (.bipush (-9), 2) := by decide +kernel
theorem dX5_ticksOnce_50 : decode cX5_ticksOnce 50 = .ok (.if_icmp .eq 28, 3) := by decide +kernel
theorem dX5_ticksOnce_53 : decode cX5_ticksOnce 53 = .ok (.aload_n 0, 1) := by decide +kernel
theorem dX5_ticksOnce_54 : decode cX5_ticksOnce 54 = .ok (.getfield 7, 3) := by decide +kernel
theorem dX5_ticksOnce_57 : decode cX5_ticksOnce 57 = .ok (.iload_n 3, 1) := by decide +kernel
theorem dX5_ticksOnce_58 : decode cX5_ticksOnce 58 = .ok (.invokestatic 75, 3) := by decide +kernel
theorem dX5_ticksOnce_61 : decode cX5_ticksOnce 61 = .ok (.iconst 1, 1) := by decide +kernel
theorem dX5_ticksOnce_62 : decode cX5_ticksOnce 62 = .ok (.iadd, 1) := by decide +kernel
theorem dX5_ticksOnce_63 : decode cX5_ticksOnce 63 = .ok (.iaload, 1) := by decide +kernel
theorem dX5_ticksOnce_64 : decode cX5_ticksOnce 64 = .ok (.aload_n 0, 1) := by decide +kernel
theorem dX5_ticksOnce_65 : decode cX5_ticksOnce 65 = .ok (.getfield 7, 3) := by decide +kernel
theorem dX5_ticksOnce_68 : decode cX5_ticksOnce 68 = .ok (.iload_n 1, 1) := by decide +kernel
theorem dX5_ticksOnce_69 : decode cX5_ticksOnce 69 = .ok (.invokestatic 75, 3) := by decide +kernel
theorem dX5_ticksOnce_72 : decode cX5_ticksOnce 72 = .ok (.iconst 1, 1) := by decide +kernel
theorem dX5_ticksOnce_73 : decode cX5_ticksOnce 73 = .ok (.iadd, 1) := by decide +kernel
theorem dX5_ticksOnce_74 : decode cX5_ticksOnce 74 = .ok (.iaload, 1) := by decide +kernel
theorem dX5_ticksOnce_75 : decode cX5_ticksOnce 75 = .ok (.if_icmp .le 7, 3) := by decide +kernel
theorem dX5_ticksOnce_78 : decode cX5_ticksOnce 78 = .ok (.iconst 1, 1) := by decide +kernel
theorem dX5_ticksOnce_79 : decode cX5_ticksOnce 79 = .ok (.goto 4, 3) := by decide +kernel
theorem dX5_ticksOnce_82 : decode cX5_ticksOnce 82 = .ok (.iconst 0, 1) := by decide +kernel
theorem dX5_ticksOnce_83 : decode cX5_ticksOnce 83 = .ok (.istore 4, 2) := by decide +kernel
theorem dX5_ticksOnce_85 : decode cX5_ticksOnce 85 = .ok (.iload 4, 2) := by decide +kernel
theorem dX5_ticksOnce_87 : decode cX5_ticksOnce 87 = .ok (.ifCond .eq 7, 3) := by decide +kernel
theorem dX5_ticksOnce_90 : decode cX5_ticksOnce 90 = .ok (.iload_n 3, 1) := by decide +kernel
theorem dX5_ticksOnce_91 : decode cX5_ticksOnce 91 = .ok (.goto 4, 3) := by decide +kernel
theorem dX5_ticksOnce_94 : decode cX5_ticksOnce 94 = .ok (.iload_n 1, 1) := by decide +kernel
theorem dX5_ticksOnce_95 : decode cX5_ticksOnce 95 = .ok (.istore_n 1, 1) := by decide +kernel
theorem dX5_ticksOnce_96 : decode cX5_ticksOnce 96 = .ok (.iinc 2 1, 3) := by decide +kernel
theorem dX5_ticksOnce_99 : decode cX5_ticksOnce 99 = .ok (.goto (-78), 3) := by decide +kernel
theorem dX5_ticksOnce_102 : decode cX5_ticksOnce 102 = .ok (.iload_n 1, 1) := by decide +kernel
theorem dX5_ticksOnce_103 : decode cX5_ticksOnce 103 = .ok (.bipush (-9), 2) := by decide +kernel
theorem dX5_ticksOnce_105 : decode cX5_ticksOnce 105 = .ok (.if_icmp .eq 8, 3) := by decide +kernel
theorem dX5_ticksOnce_108 : decode cX5_ticksOnce 108 = .ok (.aload_n 0, 1) := by decide +kernel
theorem dX5_ticksOnce_109 : decode cX5_ticksOnce 109 = .ok (.iload_n 1, 1) := by decide +kernel
theorem dX5_ticksOnce_110 : decode cX5_ticksOnce 110 = .ok (.invokevirtual 134, 3) := by decide +kernel
theorem dX5_ticksOnce_113 : decode cX5_ticksOnce 113 = .ok (.aload_n 0, 1) := by decide +kernel
theorem dX5_ticksOnce_114 : decode cX5_ticksOnce 114 = .ok (.getfield 7, 3) := by decide +kernel
theorem dX5_ticksOnce_117 : decode cX5_ticksOnce 117 = .ok (.sipush 454, 3) := by decide +kernel
theorem dX5_ticksOnce_120 : decode cX5_ticksOnce 120 = .ok (.dup2, 1) := by decide +kernel
theorem dX5_ticksOnce_121 : decode cX5_ticksOnce 121 = .ok (.iaload, 1) := by decide +kernel
theorem dX5_ticksOnce_122 : decode cX5_ticksOnce 122 = .ok (.iconst 1, 1) := by decide +kernel
theorem dX5_ticksOnce_123 : decode cX5_ticksOnce 123 = .ok (.iadd, 1) := by decide +kernel
theorem dX5_ticksOnce_124 : decode cX5_ticksOnce 124 = .ok (.iastore, 1) := by decide +kernel
theorem dX5_ticksOnce_125 : decode cX5_ticksOnce 125 = .ok (.iload_n 1, 1) := by decide +kernel
theorem dX5_ticksOnce_126 : decode cX5_ticksOnce 126 = .ok (.ireturn, 1) := by decide +kernel
theorem dX5_ticks_0 : decode cX5_ticks 0 = .ok (.iload_n 1, 1) := by decide +kernel
theorem dX5_ticks_1 : decode cX5_ticks 1 = .ok (.iconst 1, 1) := by decide +kernel
theorem dX5_ticks_2 : decode cX5_ticks 2 = .ok (.bipush 40, 2) := by decide +kernel
theorem dX5_ticks_4 : decode cX5_ticks 4 = .ok (.invokestatic 38, 3) := by decide +kernel
theorem dX5_ticks_7 : decode cX5_ticks 7 = .ok (.ifCond .ne 5, 3) := by decide +kernel
theorem dX5_ticks_10 : decode cX5_ticks 10 = .ok (.iconst (-1), 1) := by decide +kernel
theorem dX5_ticks_11 : decode cX5_ticks 11 = .ok (.ireturn, 1) := by decide +kernel
theorem dX5_ticks_12 : decode cX5_ticks 12 = .ok (.aload_n 0, 1) := by decide +kernel
theorem dX5_ticks_13 : decode cX5_ticks 13 = .ok (.invokevirtual 105, 3) := by decide +kernel
theorem dX5_ticks_16 : decode cX5_ticks 16 = .ok (.aload_n 0, 1) := by decide +kernel
theorem dX5_ticks_17 : decode cX5_ticks 17 = .ok (.invokevirtual 111, 3) := by decide +kernel
theorem dX5_ticks_20 : decode cX5_ticks 20 = .ok (.iconst 0, 1) := by decide +kernel
theorem dX5_ticks_21 : decode cX5_ticks 21 = .ok (.istore_n 2, 1) := by decide +kernel
theorem dX5_ticks_22 : decode cX5_ticks 22 = .ok (.iconst 0, 1) := by decide +kernel
theorem dX5_ticks_23 : decode cX5_ticks 23 = .ok (.istore_n 3, 1) := by decide +kernel
theorem dX5_ticks_24 : decode cX5_ticks 24 = .ok (.iload_n 3, 1) := by decide +kernel
theorem dX5_ticks_25 : decode cX5_ticks 25 = .ok (.iload_n 1, 1) := by decide +kernel
theorem dX5_ticks_26 : decode cX5_ticks 26 = .ok (.if_icmp .ge 26, 3) := by decide +kernel
theorem dX5_ticks_29 : decode cX5_ticks 29 = .ok (.iload_n 2, 1) := by decide +kernel
theorem dX5_ticks_30 : decode cX5_ticks 30 = .ok (.aload_n 0, 1) := by decide +kernel
theorem dX5_ticks_31 : decode cX5_ticks 31 = .ok (.invokevirtual 137, 3) := by decide +kernel
theorem dX5_ticks_34 : decode cX5_ticks 34 = .ok (.bipush (-9), 2) := by decide +kernel
theorem dX5_ticks_36 : decode cX5_ticks 36 = .ok (.if_icmp .ne 7, 3) := by decide +kernel
theorem dX5_ticks_39 : decode cX5_ticks 39 = .ok (.iconst 0, 1) := by decide +kernel
theorem dX5_ticks_40 : decode cX5_ticks 40 = .ok (.goto 4, 3) := by decide +kernel
theorem dX5_ticks_43 : decode cX5_ticks 43 = .ok (.iconst 1, 1) := by decide +kernel
theorem dX5_ticks_44 : decode cX5_ticks 44 = .ok (.iadd, 1) := by decide +kernel
theorem dX5_ticks_45 : decode cX5_ticks 45 = .ok (.istore_n 2, 1) := by decide +kernel
theorem dX5_ticks_46 : decode cX5_ticks 46 = .ok (.iinc 3 1, 3) := by decide +kernel
theorem dX5_ticks_49 : decode cX5_ticks 49 = .ok (.goto (-25), 3) := by decide +kernel
theorem dX5_ticks_52 : decode cX5_ticks 52 = .ok (.iload_n 2, 1) := by decide +kernel
theorem dX5_ticks_53 : decode cX5_ticks 53 = .ok (.ireturn, 1) := by decide +kernel
theorem dX5_isChannel_0 : decode cX5_isChannel 0 = .ok (.iload_n 0, 1) := by decide +kernel
theorem dX5_isChannel_1 : decode cX5_isChannel 1 = .ok (.iconst 0, 1) := by decide +kernel
theorem dX5_isChannel_2 : decode cX5_isChannel 2 = .ok (.iconst 3, 1) := by decide +kernel
theorem dX5_isChannel_3 : decode cX5_isChannel 3 = .ok (.invokestatic 38, 3) := by decide +kernel
theorem dX5_isChannel_6 : decode cX5_isChannel 6 = .ok (.ireturn, 1) := by decide +kernel
theorem dX5_writesAll_0 : decode cX5_writesAll 0 = .ok (.iconst 0, 1) := by decide +kernel
theorem dX5_writesAll_1 : decode cX5_writesAll 1 = .ok (.istore_n 2, 1) := by decide +kernel
theorem dX5_writesAll_2 : decode cX5_writesAll 2 = .ok (.iload_n 2, 1) := by decide +kernel
theorem dX5_writesAll_3 : decode cX5_writesAll 3 = .ok (.aload_n 0, 1) := by decide +kernel
theorem dX5_writesAll_4 : decode cX5_writesAll 4 = .ok (.getfield 7, 3) := by decide +kernel
theorem dX5_writesAll_7 : decode cX5_writesAll 7 = .ok (.sipush 428, 3) := by decide +kernel
theorem dX5_writesAll_10 : decode cX5_writesAll 10 = .ok (.iaload, 1) := by decide +kernel
theorem dX5_writesAll_11 : decode cX5_writesAll 11 = .ok (.if_icmp .ge 34, 3) := by decide +kernel
theorem dX5_writesAll_14 : decode cX5_writesAll 14 = .ok (.aload_n 0, 1) := by decide +kernel
theorem dX5_writesAll_15 : decode cX5_writesAll 15 = .ok (.getfield 7, 3) := by decide +kernel
theorem dX5_writesAll_18 : decode cX5_writesAll 18 = .ok (.sipush 429, 3) := by decide +kernel
theorem dX5_writesAll_21 : decode cX5_writesAll 21 = .ok (.iload_n 2, 1) := by decide +kernel
theorem dX5_writesAll_22 : decode cX5_writesAll 22 = .ok (.iadd, 1) := by decide +kernel
theorem dX5_writesAll_23 : decode cX5_writesAll 23 = .ok (.iaload, 1) := by decide +kernel
theorem dX5_writesAll_24 : decode cX5_writesAll 24 = .ok (.bipush 6, 2) := by decide +kernel
theorem dX5_writesAll_26 : decode cX5_writesAll 26 = .ok (.idiv, 1) := by decide +kernel
theorem dX5_writesAll_27 : decode cX5_writesAll 27 = .ok (.iload_n 1, 1) := by decide +kernel
theorem dX5_writesAll_28 : decode cX5_writesAll 28 = .ok (.if_icmp .ne 11, 3) := by decide +kernel
theorem dX5_writesAll_31 : decode cX5_writesAll 31 = .ok (.aload_n 0, 1) := by decide +kernel
theorem dX5_writesAll_32 : decode cX5_writesAll 32 = .ok (.iload_n 2, 1) := by decide +kernel
theorem dX5_writesAll_33 : decode cX5_writesAll 33 = .ok (.invokevirtual 127, 3) := by decide +kernel
theorem dX5_writesAll_36 : decode cX5_writesAll 36 = .ok (.goto (-34), 3) := by decide +kernel
theorem dX5_writesAll_39 : decode cX5_writesAll 39 = .ok (.iinc 2 1, 3) := by decide +kernel
theorem dX5_writesAll_42 : decode cX5_writesAll 42 = .ok (.goto (-40), 3) := by decide +kernel
theorem dX5_writesAll_45 : decode cX5_writesAll 45 = .ok (.return_, 1) := by decide +kernel
theorem dX5_cancels_0 : decode cX5_cancels 0 = .ok (.iload_n 1, 1) := by decide +kernel
theorem dX5_cancels_1 : decode cX5_cancels 1 = .ok (.invokestatic 141, 3) := by decide +kernel
theorem dX5_cancels_4 : decode cX5_cancels 4 = .ok (.ifCond .ne 5, 3) := by decide +kernel
theorem dX5_cancels_7 : decode cX5_cancels 7 = .ok (.iconst (-1), 1) := by decide +kernel
theorem dX5_cancels_8 : decode cX5_cancels 8 = .ok (.ireturn, 1) := by decide +kernel
theorem dX5_cancels_9 : decode cX5_cancels 9 = .ok (.aload_n 0, 1) := by decide +kernel
theorem dX5_cancels_10 : decode cX5_cancels 10 = .ok (.iload_n 1, 1) := by decide +kernel
theorem dX5_cancels_11 : decode cX5_cancels 11 = .ok (.invokevirtual 114, 3) := by decide +kernel
theorem dX5_cancels_14 : decode cX5_cancels 14 = .ok (.bipush (-9), 2) := by decide +kernel
theorem dX5_cancels_16 : decode cX5_cancels 16 = .ok (.if_icmp .ne 6, 3) := by decide +kernel
theorem dX5_cancels_19 : decode cX5_cancels 19 = .ok (.bipush (-2), 2) := by decide +kernel
theorem dX5_cancels_21 : decode cX5_cancels 21 = .ok (.ireturn, 1) := by decide +kernel
theorem dX5_cancels_22 : decode cX5_cancels 22 = .ok (.aload_n 0, 1) := by decide +kernel
theorem dX5_cancels_23 : decode cX5_cancels 23 = .ok (.invokevirtual 105, 3) := by decide +kernel
theorem dX5_cancels_26 : decode cX5_cancels 26 = .ok (.aload_n 0, 1) := by decide +kernel
theorem dX5_cancels_27 : decode cX5_cancels 27 = .ok (.invokevirtual 111, 3) := by decide +kernel
theorem dX5_cancels_30 : decode cX5_cancels 30 = .ok (.aload_n 0, 1) := by decide +kernel
theorem dX5_cancels_31 : decode cX5_cancels 31 = .ok (.iload_n 1, 1) := by decide +kernel
theorem dX5_cancels_32 : decode cX5_cancels 32 = .ok (.invokevirtual 144, 3) := by decide +kernel
theorem dX5_cancels_35 : decode cX5_cancels 35 = .ok (.iload_n 1, 1) := by decide +kernel
theorem dX5_cancels_36 : decode cX5_cancels 36 = .ok (.invokestatic 75, 3) := by decide +kernel
theorem dX5_cancels_39 : decode cX5_cancels 39 = .ok (.istore_n 2, 1) := by decide +kernel
theorem dX5_cancels_40 : decode cX5_cancels 40 = .ok (.iconst 0, 1) := by decide +kernel
theorem dX5_cancels_41 : decode cX5_cancels 41 = .ok (.istore_n 3, 1) := by decide +kernel
theorem dX5_cancels_42 : decode cX5_cancels 42 = .ok (.iconst 1, 1) := by decide +kernel
theorem dX5_cancels_43 : decode cX5_cancels 43 = .ok (.istore 4, 2) := by decide +kernel
theorem dX5_cancels_45 : decode cX5_cancels 45 = .ok (.iload 4, 2) := by decide +kernel
theorem dX5_cancels_47 : decode cX5_cancels 47 = .ok (.ifCond .eq 116, 3) := by decide +kernel
theorem dX5_cancels_50 : decode cX5_cancels 50 = .ok (.iload_n 1, 1) := by decide +kernel
theorem dX5_cancels_51 : decode cX5_cancels 51 = .ok (.aload_n 0, 1) := by decide +kernel
theorem dX5_cancels_52 : decode cX5_cancels 52 = .ok (.getfield 7, 3) := by decide +kernel
theorem dX5_cancels_55 : decode cX5_cancels 55 = .ok (.iload_n 2, 1) := by decide +kernel
theorem dX5_cancels_56 : decode cX5_cancels 56 = .ok (.iconst 4, 1) := by decide +kernel
theorem dX5_cancels_57 : decode cX5_cancels 57 = .ok (.iadd, 1) := by decide +kernel
theorem dX5_cancels_58 : decode cX5_cancels 58 = .ok (.iaload, 1) := by decide +kernel
theorem dX5_cancels_59 : decode cX5_cancels 59 = .ok (.invokestatic 79, 3) := by decide +kernel
theorem dX5_cancels_62 : decode cX5_cancels 62 = .ok (.istore 5, 2) := by decide +kernel
theorem dX5_cancels_64 : decode cX5_cancels 64 = .ok (.aload_n 0, 1) := by decide +kernel
theorem dX5_cancels_65 : decode cX5_cancels 65 = .ok (.getfield 7, 3) := by decide +kernel
theorem dX5_cancels_68 : decode cX5_cancels 68 = .ok (.iload 5, 2) := by decide +kernel
theorem dX5_cancels_70 : decode cX5_cancels 70 = .ok (.bipush 10, 2) := by decide +kernel
theorem dX5_cancels_72 : decode cX5_cancels 72 = .ok (.iadd, 1) := by decide +kernel
theorem dX5_cancels_73 : decode cX5_cancels 73 = .ok (.iconst 0, 1) := by decide +kernel
theorem dX5_cancels_74 : decode cX5_cancels 74 = .ok (.iastore, 1) := by decide +kernel
theorem dX5_cancels_75 : decode cX5_cancels 75 = .ok (.aload_n 0, 1) := by decide +kernel
theorem dX5_cancels_76 : decode cX5_cancels 76 = .ok (.getfield 7, 3) := by decide +kernel
theorem dX5_cancels_79 : decode cX5_cancels 79 = .ok (.iload 5, 2) := by decide +kernel
theorem dX5_cancels_81 : decode cX5_cancels 81 = .ok (.bipush 11, 2) := by decide +kernel
theorem dX5_cancels_83 : decode cX5_cancels 83 = .ok (.iadd, 1) := by decide +kernel
theorem dX5_cancels_84 : decode cX5_cancels 84 = .ok (.iconst 2, 1) := by decide +kernel
theorem dX5_cancels_85 : decode cX5_cancels 85 = .ok (.iastore, 1) := by decide +kernel
theorem dX5_cancels_86 : decode cX5_cancels 86 = .ok (.iload_n 3, 1) := by decide +kernel
theorem dX5_cancels_87 : decode cX5_cancels 87 = .ok (.aload_n 0, 1) := by decide +kernel
theorem dX5_cancels_88 : decode cX5_cancels 88 = .ok (.getfield 7, 3) := by decide +kernel
theorem dX5_cancels_91 : decode cX5_cancels 91 = .ok (.iload 5, 2) := by decide +kernel
theorem dX5_cancels_93 : decode cX5_cancels 93 = .ok (.bipush 12, 2) := by decide +kernel
theorem dX5_cancels_95 : decode cX5_cancels 95 = .ok (.iadd, 1) := by decide +kernel
theorem dX5_cancels_96 : decode cX5_cancels 96 = .ok (.iaload, 1) := by decide +kernel
theorem dX5_cancels_97 : decode cX5_cancels 97 = .ok (.iadd, 1) := by decide +kernel
theorem dX5_cancels_98 : decode cX5_cancels 98 = .ok (.istore_n 3, 1) := by decide +kernel
theorem dX5_cancels_99 : decode cX5_cancels 99 = .ok (.aload_n 0, 1) := by decide +kernel
theorem dX5_cancels_100 : decode cX5_cancels 100 = .ok (.getfield 7, 3) := by decide +kernel
theorem dX5_cancels_103 : decode cX5_cancels 103 = .ok (.iload_n 2, 1) := by decide +kernel
theorem dX5_cancels_104 : decode cX5_cancels 104 = .ok (.iconst 4, 1) := by decide +kernel
theorem dX5_cancels_105 : decode cX5_cancels 105 = .ok (.iadd, 1) := by decide +kernel
theorem dX5_cancels_106 : decode cX5_cancels 106 = .ok (.aload_n 0, 1) := by decide +kernel
theorem dX5_cancels_107 : decode cX5_cancels 107 = .ok (.getfield 7, 3) := by decide +kernel
theorem dX5_cancels_110 : decode cX5_cancels 110 = .ok (.iload_n 2, 1) := by decide +kernel
theorem dX5_cancels_111 : decode cX5_cancels 111 = .ok (.iconst 4, 1) := by decide +kernel
theorem dX5_cancels_112 : decode cX5_cancels 112 = .ok (.iadd, 1) := by decide +kernel
theorem dX5_cancels_113 : decode cX5_cancels 113 = .ok (.iaload, 1) := by decide +kernel
theorem dX5_cancels_114 : decode cX5_cancels 114 = .ok (.iconst 1, 1) := by decide +kernel
theorem dX5_cancels_115 : decode cX5_cancels 115 = .ok (.iadd, 1) := by decide +kernel
theorem dX5_cancels_116 : decode cX5_cancels 116 = .ok (.bipush 6, 2) := by decide +kernel
theorem dX5_cancels_118 : decode cX5_cancels 118 = .ok (.irem, 1) := by decide +kernel
theorem dX5_cancels_119 : decode cX5_cancels 119 = .ok (.iastore, 1) := by decide +kernel
theorem dX5_cancels_120 : decode cX5_cancels 120 = .ok (.aload_n 0, 1) := by decide +kernel
theorem dX5_cancels_121 : decode cX5_cancels 121 = .ok (.getfield 7, 3) := by decide +kernel
theorem dX5_cancels_124 : decode cX5_cancels 124 = .ok (.iload 5, 2) := by decide +kernel
theorem dX5_cancels_126 : decode cX5_cancels 126 = .ok (.bipush 9, 2) := by decide +kernel
theorem dX5_cancels_128 : decode cX5_cancels 128 = .ok (.iadd, 1) := by decide +kernel
theorem dX5_cancels_129 : decode cX5_cancels 129 = .ok (.iaload, 1) := by decide +kernel
theorem dX5_cancels_130 : decode cX5_cancels 130 = .ok (.iconst 1, 1) := by decide +kernel
theorem dX5_cancels_131 : decode cX5_cancels 131 = .ok (.if_icmp .ne 26, 3) := by decide +kernel
theorem dX5_cancels_134 : decode cX5_cancels 134 = .ok (.aload_n 0, 1) := by decide +kernel
theorem dX5_cancels_135 : decode cX5_cancels 135 = .ok (.iload_n 1, 1) := by decide +kernel
theorem dX5_cancels_136 : decode cX5_cancels 136 = .ok (.aload_n 0, 1) := by decide +kernel
theorem dX5_cancels_137 : decode cX5_cancels 137 = .ok (.getfield 7, 3) := by decide +kernel
theorem dX5_cancels_140 : decode cX5_cancels 140 = .ok (.iload_n 2, 1) := by decide +kernel
theorem dX5_cancels_141 : decode cX5_cancels 141 = .ok (.iconst 4, 1) := by decide +kernel
theorem dX5_cancels_142 : decode cX5_cancels 142 = .ok (.iadd, 1) := by decide +kernel
theorem dX5_cancels_143 : decode cX5_cancels 143 = .ok (.iaload, 1) := by decide +kernel
theorem dX5_cancels_144 : decode cX5_cancels 144 = .ok (.invokestatic 79, 3) := by decide +kernel
theorem dX5_cancels_147 : decode cX5_cancels 147 = .ok (.invokevirtual 83, 3) := by decide +kernel
theorem dX5_cancels_150 : decode cX5_cancels 150 = .ok (.ifCond .eq 7, 3) := by decide +kernel
theorem dX5_cancels_153 : decode cX5_cancels 153 = .ok (.iconst 1, 1) := by decide +kernel
theorem dX5_cancels_154 : decode cX5_cancels 154 = .ok (.goto 4, 3) := by decide +kernel
theorem dX5_cancels_157 : decode cX5_cancels 157 = .ok (.iconst 0, 1) := by decide +kernel
theorem dX5_cancels_158 : decode cX5_cancels 158 = .ok (.istore 4, 2) := by decide +kernel
theorem dX5_cancels_160 : decode cX5_cancels 160 = .ok (.goto (-115), 3) := by decide +kernel
theorem dX5_cancels_163 : decode cX5_cancels 163 = .ok (.iload_n 3, 1) := by decide +kernel
theorem dX5_cancels_164 : decode cX5_cancels 164 = .ok (.ireturn, 1) := by decide +kernel
theorem dX5_switches_0 : decode cX5_switches 0 = .ok (.iload_n 1, 1) := by decide +kernel
theorem dX5_switches_1 : decode cX5_switches 1 = .ok (.invokestatic 141, 3) := by decide +kernel
theorem dX5_switches_4 : decode cX5_switches 4 = .ok (.ifCond .ne 5, 3) := by decide +kernel
theorem dX5_switches_7 : decode cX5_switches 7 = .ok (.iconst (-1), 1) := by decide +kernel
theorem dX5_switches_8 : decode cX5_switches 8 = .ok (.ireturn, 1) := by decide +kernel
theorem dX5_switches_9 : decode cX5_switches 9 = .ok (.aload_n 0, 1) := by decide +kernel
theorem dX5_switches_10 : decode cX5_switches 10 = .ok (.invokevirtual 105, 3) := by decide +kernel
theorem dX5_switches_13 : decode cX5_switches 13 = .ok (.aload_n 0, 1) := by decide +kernel
theorem dX5_switches_14 : decode cX5_switches 14 = .ok (.invokevirtual 111, 3) := by decide +kernel
theorem dX5_switches_17 : decode cX5_switches 17 = .ok (.iload_n 1, 1) := by decide +kernel
theorem dX5_switches_18 : decode cX5_switches 18 = .ok (.invokestatic 75, 3) := by decide +kernel
theorem dX5_switches_21 : decode cX5_switches 21 = .ok (.istore_n 2, 1) := by decide +kernel
theorem dX5_switches_22 : decode cX5_switches 22 = .ok (.aload_n 0, 1) := by decide +kernel
theorem dX5_switches_23 : decode cX5_switches 23 = .ok (.getfield 7, 3) := by decide +kernel
theorem dX5_switches_26 : decode cX5_switches 26 = .ok (.iload_n 2, 1) := by decide +kernel
theorem dX5_switches_27 : decode cX5_switches 27 = .ok (.iconst 0, 1) := by decide +kernel
theorem dX5_switches_28 : decode cX5_switches 28 = .ok (.iadd, 1) := by decide +kernel
theorem dX5_switches_29 : decode cX5_switches 29 = .ok (.iconst 1, 1) := by decide +kernel
theorem dX5_switches_30 : decode cX5_switches 30 = .ok (.aload_n 0, 1) := by decide +kernel
theorem dX5_switches_31 : decode cX5_switches 31 = .ok (.getfield 7, 3) := by decide +kernel
theorem dX5_switches_34 : decode cX5_switches 34 = .ok (.iload_n 2, 1) := by decide +kernel
theorem dX5_switches_35 : decode cX5_switches 35 = .ok (.iconst 0, 1) := by decide +kernel
theorem dX5_switches_36 : decode cX5_switches 36 = .ok (.iadd, 1) := by decide +kernel
theorem dX5_switches_37 : decode cX5_switches 37 = .ok (.iaload, 1) := by decide +kernel
theorem dX5_switches_38 : decode cX5_switches 38 = .ok (.isub, 1) := by decide +kernel
theorem dX5_switches_39 : decode cX5_switches 39 = .ok (.iastore, 1) := by decide +kernel
theorem dX5_switches_40 : decode cX5_switches 40 = .ok (.aload_n 0, 1) := by decide +kernel
theorem dX5_switches_41 : decode cX5_switches 41 = .ok (.getfield 7, 3) := by decide +kernel
theorem dX5_switches_44 : decode cX5_switches 44 = .ok (.iload_n 2, 1) := by decide +kernel
theorem dX5_switches_45 : decode cX5_switches 45 = .ok (.iconst 0, 1) := by decide +kernel
theorem dX5_switches_46 : decode cX5_switches 46 = .ok (.iadd, 1) := by decide +kernel
theorem dX5_switches_47 : decode cX5_switches 47 = .ok (.iaload, 1) := by decide +kernel
theorem dX5_switches_48 : decode cX5_switches 48 = .ok (.ireturn, 1) := by decide +kernel
theorem dX5_tunes_0 : decode cX5_tunes 0 = .ok (.iload_n 1, 1) := by decide +kernel
theorem dX5_tunes_1 : decode cX5_tunes 1 = .ok (.invokestatic 141, 3) := by decide +kernel
theorem dX5_tunes_4 : decode cX5_tunes 4 = .ok (.ifCond .eq 22, 3) := by decide +kernel
theorem dX5_tunes_7 : decode cX5_tunes 7 = .ok (.iload_n 2, 1) := by decide +kernel
theorem dX5_tunes_8 : decode cX5_tunes 8 = .ok (.iconst 0, 1) := by decide +kernel
theorem dX5_tunes_9 : decode cX5_tunes 9 = .ok (.iconst 3, 1) := by decide +kernel
theorem dX5_tunes_10 : decode cX5_tunes 10 = .ok (.invokestatic 38, 3) := by decide +kernel
theorem dX5_tunes_13 : decode cX5_tunes 13 = .ok (.ifCond .eq 13, 3) := by decide +kernel
theorem dX5_tunes_16 : decode cX5_tunes 16 = .ok (.iload_n 3, 1) := by decide +kernel
theorem dX5_tunes_17 : decode cX5_tunes 17 = .ok (.iconst 1, 1) := by decide +kernel
theorem dX5_tunes_18 : decode cX5_tunes 18 = .ok (.bipush 8, 2) := by decide +kernel
theorem dX5_tunes_20 : decode cX5_tunes 20 = .ok (.invokestatic 38, 3) := by decide +kernel
theorem dX5_tunes_23 : decode cX5_tunes 23 = .ok (.ifCond .ne 5, 3) := by decide +kernel
theorem dX5_tunes_26 : decode cX5_tunes 26 = .ok (.iconst (-1), 1) := by decide +kernel
theorem dX5_tunes_27 : decode cX5_tunes 27 = .ok (.ireturn, 1) := by decide +kernel
theorem dX5_tunes_28 : decode cX5_tunes 28 = .ok (.iload_n 1, 1) := by decide +kernel
theorem dX5_tunes_29 : decode cX5_tunes 29 = .ok (.invokestatic 75, 3) := by decide +kernel
theorem dX5_tunes_32 : decode cX5_tunes 32 = .ok (.istore 4, 2) := by decide +kernel
theorem dX5_tunes_34 : decode cX5_tunes 34 = .ok (.aload_n 0, 1) := by decide +kernel
theorem dX5_tunes_35 : decode cX5_tunes 35 = .ok (.getfield 7, 3) := by decide +kernel
theorem dX5_tunes_38 : decode cX5_tunes 38 = .ok (.iload 4, 2) := by decide +kernel
theorem dX5_tunes_40 : decode cX5_tunes 40 = .ok (.iconst 1, 1) := by decide +kernel
theorem dX5_tunes_41 : decode cX5_tunes 41 = .ok (.iadd, 1) := by decide +kernel
theorem dX5_tunes_42 : decode cX5_tunes 42 = .ok (.iaload, 1) := by decide +kernel
theorem dX5_tunes_43 : decode cX5_tunes 43 = .ok (.iload_n 2, 1) := by decide +kernel
theorem dX5_tunes_44 : decode cX5_tunes 44 = .ok (.if_icmp .ne 19, 3) := by decide +kernel
theorem dX5_tunes_47 : decode cX5_tunes 47 = .ok (.aload_n 0, 1) := by decide +kernel
theorem dX5_tunes_48 : decode cX5_tunes 48 = .ok (.getfield 7, 3) := by decide +kernel
theorem dX5_tunes_51 : decode cX5_tunes 51 = .ok (.iload 4, 2) := by decide +kernel
theorem dX5_tunes_53 : decode cX5_tunes 53 = .ok (.iconst 2, 1) := by decide +kernel
theorem dX5_tunes_54 : decode cX5_tunes 54 = .ok (.iadd, 1) := by decide +kernel
theorem dX5_tunes_55 : decode cX5_tunes 55 = .ok (.iaload, 1) := by decide +kernel
theorem dX5_tunes_56 : decode cX5_tunes 56 = .ok (.iload_n 3, 1) := by decide +kernel
theorem dX5_tunes_57 : decode cX5_tunes 57 = .ok (.if_icmp .ne 6, 3) := by decide +kernel
theorem dX5_tunes_60 : decode cX5_tunes 60 = .ok (.bipush (-2), 2) := by decide +kernel
theorem dX5_tunes_62 : decode cX5_tunes 62 = .ok (.ireturn, 1) := by decide +kernel
theorem dX5_tunes_63 : decode cX5_tunes 63 = .ok (.aload_n 0, 1) := by decide +kernel
theorem dX5_tunes_64 : decode cX5_tunes 64 = .ok (.invokevirtual 105, 3) := by decide +kernel
theorem dX5_tunes_67 : decode cX5_tunes 67 = .ok (.aload_n 0, 1) := by decide +kernel
theorem dX5_tunes_68 : decode cX5_tunes 68 = .ok (.invokevirtual 111, 3) := by decide +kernel
theorem dX5_tunes_71 : decode cX5_tunes 71 = .ok (.aload_n 0, 1) := by decide +kernel
theorem dX5_tunes_72 : decode cX5_tunes 72 = .ok (.getfield 7, 3) := by decide +kernel
theorem dX5_tunes_75 : decode cX5_tunes 75 = .ok (.iload 4, 2) := by decide +kernel
theorem dX5_tunes_77 : decode cX5_tunes 77 = .ok (.iconst 1, 1) := by decide +kernel
theorem dX5_tunes_78 : decode cX5_tunes 78 = .ok (.iadd, 1) := by decide +kernel
theorem dX5_tunes_79 : decode cX5_tunes 79 = .ok (.iload_n 2, 1) := by decide +kernel
theorem dX5_tunes_80 : decode cX5_tunes 80 = .ok (.iastore, 1) := by decide +kernel
theorem dX5_tunes_81 : decode cX5_tunes 81 = .ok (.aload_n 0, 1) := by decide +kernel
theorem dX5_tunes_82 : decode cX5_tunes 82 = .ok (.getfield 7, 3) := by decide +kernel
theorem dX5_tunes_85 : decode cX5_tunes 85 = .ok (.iload 4, 2) := by decide +kernel
theorem dX5_tunes_87 : decode cX5_tunes 87 = .ok (.iconst 2, 1) := by decide +kernel
theorem dX5_tunes_88 : decode cX5_tunes 88 = .ok (.iadd, 1) := by decide +kernel
theorem dX5_tunes_89 : decode cX5_tunes 89 = .ok (.iload_n 3, 1) := by decide +kernel
theorem dX5_tunes_90 : decode cX5_tunes 90 = .ok (.iastore, 1) := by decide +kernel
theorem dX5_tunes_91 : decode cX5_tunes 91 = .ok (.iconst 1, 1) := by decide +kernel
theorem dX5_tunes_92 : decode cX5_tunes 92 = .ok (.ireturn, 1) := by decide +kernel
theorem dX5_undo_0 : decode cX5_undo 0 = .ok (.aload_n 0, 1) := by decide +kernel
theorem dX5_undo_1 : decode cX5_undo 1 = .ok (.getfield 98, 3) := by decide +kernel
theorem dX5_undo_4 : decode cX5_undo 4 = .ok (.ifCond .ne 6, 3) := by decide +kernel
theorem dX5_undo_7 : decode cX5_undo 7 = .ok (.bipush (-2), 2) := by decide +kernel
theorem dX5_undo_9 : decode cX5_undo 9 = .ok (.ireturn, 1) := by decide +kernel
theorem dX5_undo_10 : decode cX5_undo 10 = .ok (.aload_n 0, 1) := by decide +kernel
theorem dX5_undo_11 : decode cX5_undo 11 = .ok (.dup, 1) := by decide +kernel
theorem dX5_undo_12 : decode cX5_undo 12 = .ok (.getfield 98, 3) := by decide +kernel
theorem dX5_undo_15 : decode cX5_undo 15 = .ok (.iconst 1, 1) := by decide +kernel
theorem dX5_undo_16 : decode cX5_undo 16 = .ok (.isub, 1) := by decide +kernel
theorem dX5_undo_17 : decode cX5_undo 17 = .ok (.putfield 98, 3) := by decide +kernel
theorem dX5_undo_20 : decode cX5_undo 20 = .ok (.iconst 0, 1) := by decide +kernel
theorem dX5_undo_21 : decode cX5_undo 21 = .ok (.istore_n 1, 1) := by decide +kernel
theorem dX5_undo_22 : decode cX5_undo 22 = .ok (.iload_n 1, 1) := by decide +kernel
theorem dX5_undo_23 : decode cX5_undo 23 = .ok (.sipush 455, 3) := by decide +kernel
theorem dX5_undo_26 : decode cX5_undo 26 = .ok (.if_icmp .ge 30, 3) := by decide +kernel
theorem dX5_undo_29 : decode cX5_undo 29 = .ok (.aload_n 0, 1) := by decide +kernel
theorem dX5_undo_30 : decode cX5_undo 30 = .ok (.getfield 7, 3) := by decide +kernel
theorem dX5_undo_33 : decode cX5_undo 33 = .ok (.iload_n 1, 1) := by decide +kernel
theorem dX5_undo_34 : decode cX5_undo 34 = .ok (.aload_n 0, 1) := by decide +kernel
theorem dX5_undo_35 : decode cX5_undo 35 = .ok (.getfield 13, 3) := by decide +kernel
theorem dX5_undo_38 : decode cX5_undo 38 = .ok (.sipush 455, 3) := by decide +kernel
theorem dX5_undo_41 : decode cX5_undo 41 = .ok (.aload_n 0, 1) := by decide +kernel
theorem dX5_undo_42 : decode cX5_undo 42 = .ok (.getfield 98, 3) := by decide +kernel
theorem dX5_undo_45 : decode cX5_undo 45 = .ok (.imul, 1) := by decide +kernel
theorem dX5_undo_46 : decode cX5_undo 46 = .ok (.iload_n 1, 1) := by decide +kernel
theorem dX5_undo_47 : decode cX5_undo 47 = .ok (.iadd, 1) := by decide +kernel
theorem dX5_undo_48 : decode cX5_undo 48 = .ok (.iaload, 1) := by decide +kernel
theorem dX5_undo_49 : decode cX5_undo 49 = .ok (.iastore, 1) := by decide +kernel
theorem dX5_undo_50 : decode cX5_undo 50 = .ok (.iinc 1 1, 3) := by decide +kernel
theorem dX5_undo_53 : decode cX5_undo 53 = .ok (.goto (-31), 3) := by decide +kernel
theorem dX5_undo_56 : decode cX5_undo 56 = .ok (.aload_n 0, 1) := by decide +kernel
theorem dX5_undo_57 : decode cX5_undo 57 = .ok (.getfield 98, 3) := by decide +kernel
theorem dX5_undo_60 : decode cX5_undo 60 = .ok (.ireturn, 1) := by decide +kernel
theorem dX5_at_0 : decode cX5_at 0 = .ok (.iload_n 1, 1) := by decide +kernel
theorem dX5_at_1 : decode cX5_at 1 = .ok (.iconst 0, 1) := by decide +kernel
theorem dX5_at_2 : decode cX5_at 2 = .ok (.bipush 63, 2) := by decide +kernel
theorem dX5_at_4 : decode cX5_at 4 = .ok (.invokestatic 38, 3) := by decide +kernel
theorem dX5_at_7 : decode cX5_at 7 = .ok (.ifCond .eq 12, 3) := by decide +kernel
theorem dX5_at_10 : decode cX5_at 10 = .ok (.aload_n 0, 1) := by decide +kernel
theorem dX5_at_11 : decode cX5_at 11 = .ok (.getfield 7, 3) := by decide +kernel
theorem dX5_at_14 : decode cX5_at 14 = .ok (.iload_n 1, 1) := by decide +kernel
theorem dX5_at_15 : decode cX5_at 15 = .ok (.iaload, 1) := by decide +kernel
theorem dX5_at_16 : decode cX5_at 16 = .ok (.goto 4, 3) := by decide +kernel
theorem dX5_at_19 : decode cX5_at 19 = .ok (.iconst (-1), 1) := by decide +kernel
theorem dX5_at_20 : decode cX5_at 20 = .ok (.ireturn, 1) := by decide +kernel
theorem dX5_channel_0 : decode cX5_channel 0 = .ok (.iload_n 1, 1) := by decide +kernel
theorem dX5_channel_1 : decode cX5_channel 1 = .ok (.invokestatic 141, 3) := by decide +kernel
theorem dX5_channel_4 : decode cX5_channel 4 = .ok (.ifCond .eq 13, 3) := by decide +kernel
theorem dX5_channel_7 : decode cX5_channel 7 = .ok (.iload_n 2, 1) := by decide +kernel
theorem dX5_channel_8 : decode cX5_channel 8 = .ok (.iconst 0, 1) := by decide +kernel
theorem dX5_channel_9 : decode cX5_channel 9 = .ok (.bipush 8, 2) := by decide +kernel
theorem dX5_channel_11 : decode cX5_channel 11 = .ok (.invokestatic 38, 3) := by decide +kernel
theorem dX5_channel_14 : decode cX5_channel 14 = .ok (.ifCond .ne 5, 3) := by decide +kernel
theorem dX5_channel_17 : decode cX5_channel 17 = .ok (.iconst (-1), 1) := by decide +kernel
theorem dX5_channel_18 : decode cX5_channel 18 = .ok (.ireturn, 1) := by decide +kernel
theorem dX5_channel_19 : decode cX5_channel 19 = .ok (.iload_n 1, 1) := by decide +kernel
theorem dX5_channel_20 : decode cX5_channel 20 = .ok (.invokestatic 75, 3) := by decide +kernel
theorem dX5_channel_23 : decode cX5_channel 23 = .ok (.istore_n 3, 1) := by decide +kernel
theorem dX5_channel_24 : decode cX5_channel 24 = .ok (.iload_n 2, 1) := by decide +kernel
theorem dX5_channel_25 : decode cX5_channel 25 = .ok (.tableswitch 92 5 8 #[31, 59, 68, 78], 31) := by decide +kernel
theorem dX5_channel_56 : decode cX5_channel 56 = .ok (.aload_n 0, 1) := by decide +kernel
theorem dX5_channel_57 : decode cX5_channel 57 = .ok (.iload_n 1, 1) := by decide +kernel
theorem dX5_channel_58 : decode cX5_channel 58 = .ok (.invokevirtual 114, 3) := by decide +kernel
theorem dX5_channel_61 : decode cX5_channel 61 = .ok (.bipush (-9), 2) := by decide +kernel
theorem dX5_channel_63 : decode cX5_channel 63 = .ok (.if_icmp .ne 7, 3) := by decide +kernel
theorem dX5_channel_66 : decode cX5_channel 66 = .ok (.iconst 0, 1) := by decide +kernel
theorem dX5_channel_67 : decode cX5_channel 67 = .ok (.goto 16, 3) := by decide +kernel
theorem dX5_channel_70 : decode cX5_channel 70 = .ok (.aload_n 0, 1) := by decide +kernel
theorem dX5_channel_71 : decode cX5_channel 71 = .ok (.getfield 7, 3) := by decide +kernel
theorem dX5_channel_74 : decode cX5_channel 74 = .ok (.aload_n 0, 1) := by decide +kernel
theorem dX5_channel_75 : decode cX5_channel 75 = .ok (.iload_n 1, 1) := by decide +kernel
theorem dX5_channel_76 : decode cX5_channel 76 = .ok (.invokevirtual 114, 3) := by decide +kernel
theorem dX5_channel_79 : decode cX5_channel 79 = .ok (.bipush 12, 2) := by decide +kernel
theorem dX5_channel_81 : decode cX5_channel 81 = .ok (.iadd, 1) := by decide +kernel
theorem dX5_channel_82 : decode cX5_channel 82 = .ok (.iaload, 1) := by decide +kernel
theorem dX5_channel_83 : decode cX5_channel 83 = .ok (.ireturn, 1) := by decide +kernel
theorem dX5_channel_84 : decode cX5_channel 84 = .ok (.aload_n 0, 1) := by decide +kernel
theorem dX5_channel_85 : decode cX5_channel 85 = .ok (.getfield 7, 3) := by decide +kernel
theorem dX5_channel_88 : decode cX5_channel 88 = .ok (.iload_n 3, 1) := by decide +kernel
theorem dX5_channel_89 : decode cX5_channel 89 = .ok (.iconst 5, 1) := by decide +kernel
theorem dX5_channel_90 : decode cX5_channel 90 = .ok (.iadd, 1) := by decide +kernel
theorem dX5_channel_91 : decode cX5_channel 91 = .ok (.iaload, 1) := by decide +kernel
theorem dX5_channel_92 : decode cX5_channel 92 = .ok (.ireturn, 1) := by decide +kernel
theorem dX5_channel_93 : decode cX5_channel 93 = .ok (.aload_n 0, 1) := by decide +kernel
theorem dX5_channel_94 : decode cX5_channel 94 = .ok (.getfield 7, 3) := by decide +kernel
theorem dX5_channel_97 : decode cX5_channel 97 = .ok (.iload_n 3, 1) := by decide +kernel
theorem dX5_channel_98 : decode cX5_channel 98 = .ok (.bipush 6, 2) := by decide +kernel
theorem dX5_channel_100 : decode cX5_channel 100 = .ok (.iadd, 1) := by decide +kernel
theorem dX5_channel_101 : decode cX5_channel 101 = .ok (.iaload, 1) := by decide +kernel
theorem dX5_channel_102 : decode cX5_channel 102 = .ok (.ireturn, 1) := by decide +kernel
theorem dX5_channel_103 : decode cX5_channel 103 = .ok (.aload_n 0, 1) := by decide +kernel
theorem dX5_channel_104 : decode cX5_channel 104 = .ok (.iload_n 1, 1) := by decide +kernel
theorem dX5_channel_105 : decode cX5_channel 105 = .ok (.invokevirtual 131, 3) := by decide +kernel
theorem dX5_channel_108 : decode cX5_channel 108 = .ok (.ifCond .eq 7, 3) := by decide +kernel
theorem dX5_channel_111 : decode cX5_channel 111 = .ok (.iconst 1, 1) := by decide +kernel
theorem dX5_channel_112 : decode cX5_channel 112 = .ok (.goto 4, 3) := by decide +kernel
theorem dX5_channel_115 : decode cX5_channel 115 = .ok (.iconst 0, 1) := by decide +kernel
theorem dX5_channel_116 : decode cX5_channel 116 = .ok (.ireturn, 1) := by decide +kernel
theorem dX5_channel_117 : decode cX5_channel 117 = .ok (.aload_n 0, 1) := by decide +kernel
theorem dX5_channel_118 : decode cX5_channel 118 = .ok (.getfield 7, 3) := by decide +kernel
theorem dX5_channel_121 : decode cX5_channel 121 = .ok (.iload_n 3, 1) := by decide +kernel
theorem dX5_channel_122 : decode cX5_channel 122 = .ok (.iload_n 2, 1) := by decide +kernel
theorem dX5_channel_123 : decode cX5_channel 123 = .ok (.iadd, 1) := by decide +kernel
theorem dX5_channel_124 : decode cX5_channel 124 = .ok (.iaload, 1) := by decide +kernel
theorem dX5_channel_125 : decode cX5_channel 125 = .ok (.ireturn, 1) := by decide +kernel
theorem dX5_isSlot_0 : decode cX5_isSlot 0 = .ok (.iload_n 0, 1) := by decide +kernel
theorem dX5_isSlot_1 : decode cX5_isSlot 1 = .ok (.invokestatic 141, 3) := by decide +kernel
theorem dX5_isSlot_4 : decode cX5_isSlot 4 = .ok (.ifCond .eq 16, 3) := by decide +kernel
theorem dX5_isSlot_7 : decode cX5_isSlot 7 = .ok (.iload_n 1, 1) := by decide +kernel
theorem dX5_isSlot_8 : decode cX5_isSlot 8 = .ok (.iconst 0, 1) := by decide +kernel
theorem dX5_isSlot_9 : decode cX5_isSlot 9 = .ok (.iconst 5, 1) := by decide +kernel
theorem dX5_isSlot_10 : decode cX5_isSlot 10 = .ok (.invokestatic 38, 3) := by decide +kernel
theorem dX5_isSlot_13 : decode cX5_isSlot 13 = .ok (.ifCond .eq 7, 3) := by decide +kernel
theorem dX5_isSlot_16 : decode cX5_isSlot 16 = .ok (.iconst 1, 1) := by decide +kernel
theorem dX5_isSlot_17 : decode cX5_isSlot 17 = .ok (.goto 4, 3) := by decide +kernel
theorem dX5_isSlot_20 : decode cX5_isSlot 20 = .ok (.iconst 0, 1) := by decide +kernel
theorem dX5_isSlot_21 : decode cX5_isSlot 21 = .ok (.ireturn, 1) := by decide +kernel
theorem dX5_slot_0 : decode cX5_slot 0 = .ok (.iload_n 1, 1) := by decide +kernel
theorem dX5_slot_1 : decode cX5_slot 1 = .ok (.iload_n 2, 1) := by decide +kernel
theorem dX5_slot_2 : decode cX5_slot 2 = .ok (.invokestatic 147, 3) := by decide +kernel
theorem dX5_slot_5 : decode cX5_slot 5 = .ok (.ifCond .eq 12, 3) := by decide +kernel
theorem dX5_slot_8 : decode cX5_slot 8 = .ok (.iload_n 3, 1) := by decide +kernel
theorem dX5_slot_9 : decode cX5_slot 9 = .ok (.iconst 0, 1) := by decide +kernel
theorem dX5_slot_10 : decode cX5_slot 10 = .ok (.iconst 5, 1) := by decide +kernel
theorem dX5_slot_11 : decode cX5_slot 11 = .ok (.invokestatic 38, 3) := by decide +kernel
theorem dX5_slot_14 : decode cX5_slot 14 = .ok (.ifCond .ne 5, 3) := by decide +kernel
theorem dX5_slot_17 : decode cX5_slot 17 = .ok (.iconst (-1), 1) := by decide +kernel
theorem dX5_slot_18 : decode cX5_slot 18 = .ok (.ireturn, 1) := by decide +kernel
theorem dX5_slot_19 : decode cX5_slot 19 = .ok (.iload_n 1, 1) := by decide +kernel
theorem dX5_slot_20 : decode cX5_slot 20 = .ok (.iload_n 2, 1) := by decide +kernel
theorem dX5_slot_21 : decode cX5_slot 21 = .ok (.invokestatic 79, 3) := by decide +kernel
theorem dX5_slot_24 : decode cX5_slot 24 = .ok (.istore 4, 2) := by decide +kernel
theorem dX5_slot_26 : decode cX5_slot 26 = .ok (.aload_n 0, 1) := by decide +kernel
theorem dX5_slot_27 : decode cX5_slot 27 = .ok (.getfield 7, 3) := by decide +kernel
theorem dX5_slot_30 : decode cX5_slot 30 = .ok (.iload 4, 2) := by decide +kernel
theorem dX5_slot_32 : decode cX5_slot 32 = .ok (.iconst 0, 1) := by decide +kernel
theorem dX5_slot_33 : decode cX5_slot 33 = .ok (.iadd, 1) := by decide +kernel
theorem dX5_slot_34 : decode cX5_slot 34 = .ok (.iaload, 1) := by decide +kernel
theorem dX5_slot_35 : decode cX5_slot 35 = .ok (.ifCond .ne 6, 3) := by decide +kernel
theorem dX5_slot_38 : decode cX5_slot 38 = .ok (.bipush (-9), 2) := by decide +kernel
theorem dX5_slot_40 : decode cX5_slot 40 = .ok (.ireturn, 1) := by decide +kernel
theorem dX5_slot_41 : decode cX5_slot 41 = .ok (.iload_n 3, 1) := by decide +kernel
theorem dX5_slot_42 : decode cX5_slot 42 = .ok (.tableswitch 85 0 4 #[34, 45, 56, 67, 74], 34) := by decide +kernel
theorem dX5_slot_76 : decode cX5_slot 76 = .ok (.aload_n 0, 1) := by decide +kernel
theorem dX5_slot_77 : decode cX5_slot 77 = .ok (.getfield 7, 3) := by decide +kernel
theorem dX5_slot_80 : decode cX5_slot 80 = .ok (.iload 4, 2) := by decide +kernel
theorem dX5_slot_82 : decode cX5_slot 82 = .ok (.bipush 10, 2) := by decide +kernel
theorem dX5_slot_84 : decode cX5_slot 84 = .ok (.iadd, 1) := by decide +kernel
theorem dX5_slot_85 : decode cX5_slot 85 = .ok (.iaload, 1) := by decide +kernel
theorem dX5_slot_86 : decode cX5_slot 86 = .ok (.ireturn, 1) := by decide +kernel
theorem dX5_slot_87 : decode cX5_slot 87 = .ok (.aload_n 0, 1) := by decide +kernel
theorem dX5_slot_88 : decode cX5_slot 88 = .ok (.getfield 7, 3) := by decide +kernel
theorem dX5_slot_91 : decode cX5_slot 91 = .ok (.iload 4, 2) := by decide +kernel
theorem dX5_slot_93 : decode cX5_slot 93 = .ok (.bipush 11, 2) := by decide +kernel
theorem dX5_slot_95 : decode cX5_slot 95 = .ok (.iadd, 1) := by decide +kernel
theorem dX5_slot_96 : decode cX5_slot 96 = .ok (.iaload, 1) := by decide +kernel
theorem dX5_slot_97 : decode cX5_slot 97 = .ok (.ireturn, 1) := by decide +kernel
theorem dX5_slot_98 : decode cX5_slot 98 = .ok (.aload_n 0, 1) := by decide +kernel
theorem dX5_slot_99 : decode cX5_slot 99 = .ok (.getfield 7, 3) := by decide +kernel
theorem dX5_slot_102 : decode cX5_slot 102 = .ok (.iload 4, 2) := by decide +kernel
theorem dX5_slot_104 : decode cX5_slot 104 = .ok (.bipush 12, 2) := by decide +kernel
theorem dX5_slot_106 : decode cX5_slot 106 = .ok (.iadd, 1) := by decide +kernel
theorem dX5_slot_107 : decode cX5_slot 107 = .ok (.iaload, 1) := by decide +kernel
theorem dX5_slot_108 : decode cX5_slot 108 = .ok (.ireturn, 1) := by decide +kernel
theorem dX5_slot_109 : decode cX5_slot 109 = .ok (.aload_n 0, 1) := by decide +kernel
theorem dX5_slot_110 : decode cX5_slot 110 = .ok (.iload 4, 2) := by decide +kernel
theorem dX5_slot_112 : decode cX5_slot 112 = .ok (.invokevirtual 120, 3) := by decide +kernel
theorem dX5_slot_115 : decode cX5_slot 115 = .ok (.ireturn, 1) := by decide +kernel
theorem dX5_slot_116 : decode cX5_slot 116 = .ok (.aload_n 0, 1) := by decide +kernel
theorem dX5_slot_117 : decode cX5_slot 117 = .ok (.getfield 7, 3) := by decide +kernel
theorem dX5_slot_120 : decode cX5_slot 120 = .ok (.iload 4, 2) := by decide +kernel
theorem dX5_slot_122 : decode cX5_slot 122 = .ok (.bipush 9, 2) := by decide +kernel
theorem dX5_slot_124 : decode cX5_slot 124 = .ok (.iadd, 1) := by decide +kernel
theorem dX5_slot_125 : decode cX5_slot 125 = .ok (.iaload, 1) := by decide +kernel
theorem dX5_slot_126 : decode cX5_slot 126 = .ok (.ireturn, 1) := by decide +kernel
theorem dX5_slot_127 : decode cX5_slot 127 = .ok (.aload_n 0, 1) := by decide +kernel
theorem dX5_slot_128 : decode cX5_slot 128 = .ok (.getfield 7, 3) := by decide +kernel
theorem dX5_slot_131 : decode cX5_slot 131 = .ok (.iload 4, 2) := by decide +kernel
theorem dX5_slot_133 : decode cX5_slot 133 = .ok (.bipush 13, 2) := by decide +kernel
theorem dX5_slot_135 : decode cX5_slot 135 = .ok (.iadd, 1) := by decide +kernel
theorem dX5_slot_136 : decode cX5_slot 136 = .ok (.iaload, 1) := by decide +kernel
theorem dX5_slot_137 : decode cX5_slot 137 = .ok (.ireturn, 1) := by decide +kernel
theorem dX5_unit_0 : decode cX5_unit 0 = .ok (.iload_n 1, 1) := by decide +kernel
theorem dX5_unit_1 : decode cX5_unit 1 = .ok (.iload_n 2, 1) := by decide +kernel
theorem dX5_unit_2 : decode cX5_unit 2 = .ok (.invokestatic 147, 3) := by decide +kernel
theorem dX5_unit_5 : decode cX5_unit 5 = .ok (.ifCond .eq 17, 3) := by decide +kernel
theorem dX5_unit_8 : decode cX5_unit 8 = .ok (.iload_n 3, 1) := by decide +kernel
theorem dX5_unit_9 : decode cX5_unit 9 = .ok (.ifCond .lt 13, 3) := by decide +kernel
theorem dX5_unit_12 : decode cX5_unit 12 = .ok (.iload 4, 2) := by decide +kernel
theorem dX5_unit_14 : decode cX5_unit 14 = .ok (.iconst 0, 1) := by decide +kernel
theorem dX5_unit_15 : decode cX5_unit 15 = .ok (.iconst 1, 1) := by decide +kernel
theorem dX5_unit_16 : decode cX5_unit 16 = .ok (.invokestatic 38, 3) := by decide +kernel
theorem dX5_unit_19 : decode cX5_unit 19 = .ok (.ifCond .ne 5, 3) := by decide +kernel
theorem dX5_unit_22 : decode cX5_unit 22 = .ok (.iconst (-1), 1) := by decide +kernel
theorem dX5_unit_23 : decode cX5_unit 23 = .ok (.ireturn, 1) := by decide +kernel
theorem dX5_unit_24 : decode cX5_unit 24 = .ok (.iload_n 1, 1) := by decide +kernel
theorem dX5_unit_25 : decode cX5_unit 25 = .ok (.iload_n 2, 1) := by decide +kernel
theorem dX5_unit_26 : decode cX5_unit 26 = .ok (.invokestatic 79, 3) := by decide +kernel
theorem dX5_unit_29 : decode cX5_unit 29 = .ok (.istore 5, 2) := by decide +kernel
theorem dX5_unit_31 : decode cX5_unit 31 = .ok (.aload_n 0, 1) := by decide +kernel
theorem dX5_unit_32 : decode cX5_unit 32 = .ok (.getfield 7, 3) := by decide +kernel
theorem dX5_unit_35 : decode cX5_unit 35 = .ok (.iload 5, 2) := by decide +kernel
theorem dX5_unit_37 : decode cX5_unit 37 = .ok (.iconst 0, 1) := by decide +kernel
theorem dX5_unit_38 : decode cX5_unit 38 = .ok (.iadd, 1) := by decide +kernel
theorem dX5_unit_39 : decode cX5_unit 39 = .ok (.iaload, 1) := by decide +kernel
theorem dX5_unit_40 : decode cX5_unit 40 = .ok (.ifCond .eq 13, 3) := by decide +kernel
theorem dX5_unit_43 : decode cX5_unit 43 = .ok (.iload_n 3, 1) := by decide +kernel
theorem dX5_unit_44 : decode cX5_unit 44 = .ok (.aload_n 0, 1) := by decide +kernel
theorem dX5_unit_45 : decode cX5_unit 45 = .ok (.iload 5, 2) := by decide +kernel
theorem dX5_unit_47 : decode cX5_unit 47 = .ok (.invokevirtual 120, 3) := by decide +kernel
theorem dX5_unit_50 : decode cX5_unit 50 = .ok (.if_icmp .lt 8, 3) := by decide +kernel
theorem dX5_unit_53 : decode cX5_unit 53 = .ok (.bipush (-9), 2) := by decide +kernel
theorem dX5_unit_55 : decode cX5_unit 55 = .ok (.goto 12, 3) := by decide +kernel
theorem dX5_unit_58 : decode cX5_unit 58 = .ok (.aload_n 0, 1) := by decide +kernel
theorem dX5_unit_59 : decode cX5_unit 59 = .ok (.iload 5, 2) := by decide +kernel
theorem dX5_unit_61 : decode cX5_unit 61 = .ok (.iload_n 3, 1) := by decide +kernel
theorem dX5_unit_62 : decode cX5_unit 62 = .ok (.iload 4, 2) := by decide +kernel
theorem dX5_unit_64 : decode cX5_unit 64 = .ok (.invokevirtual 123, 3) := by decide +kernel
theorem dX5_unit_67 : decode cX5_unit 67 = .ok (.ireturn, 1) := by decide +kernel
theorem dX5_waiting_0 : decode cX5_waiting 0 = .ok (.iload_n 1, 1) := by decide +kernel
theorem dX5_waiting_1 : decode cX5_waiting 1 = .ok (.ifCond .ge 5, 3) := by decide +kernel
theorem dX5_waiting_4 : decode cX5_waiting 4 = .ok (.iconst (-1), 1) := by decide +kernel
theorem dX5_waiting_5 : decode cX5_waiting 5 = .ok (.ireturn, 1) := by decide +kernel
theorem dX5_waiting_6 : decode cX5_waiting 6 = .ok (.iload_n 1, 1) := by decide +kernel
theorem dX5_waiting_7 : decode cX5_waiting 7 = .ok (.aload_n 0, 1) := by decide +kernel
theorem dX5_waiting_8 : decode cX5_waiting 8 = .ok (.getfield 7, 3) := by decide +kernel
theorem dX5_waiting_11 : decode cX5_waiting 11 = .ok (.sipush 428, 3) := by decide +kernel
theorem dX5_waiting_14 : decode cX5_waiting 14 = .ok (.iaload, 1) := by decide +kernel
theorem dX5_waiting_15 : decode cX5_waiting 15 = .ok (.if_icmp .ge 36, 3) := by decide +kernel
theorem dX5_waiting_18 : decode cX5_waiting 18 = .ok (.bipush 8, 2) := by decide +kernel
theorem dX5_waiting_20 : decode cX5_waiting 20 = .ok (.aload_n 0, 1) := by decide +kernel
theorem dX5_waiting_21 : decode cX5_waiting 21 = .ok (.getfield 7, 3) := by decide +kernel
theorem dX5_waiting_24 : decode cX5_waiting 24 = .ok (.sipush 429, 3) := by decide +kernel
theorem dX5_waiting_27 : decode cX5_waiting 27 = .ok (.iload_n 1, 1) := by decide +kernel
theorem dX5_waiting_28 : decode cX5_waiting 28 = .ok (.iadd, 1) := by decide +kernel
theorem dX5_waiting_29 : decode cX5_waiting 29 = .ok (.iaload, 1) := by decide +kernel
theorem dX5_waiting_30 : decode cX5_waiting 30 = .ok (.bipush 6, 2) := by decide +kernel
theorem dX5_waiting_32 : decode cX5_waiting 32 = .ok (.idiv, 1) := by decide +kernel
theorem dX5_waiting_33 : decode cX5_waiting 33 = .ok (.imul, 1) := by decide +kernel
theorem dX5_waiting_34 : decode cX5_waiting 34 = .ok (.aload_n 0, 1) := by decide +kernel
theorem dX5_waiting_35 : decode cX5_waiting 35 = .ok (.getfield 7, 3) := by decide +kernel
theorem dX5_waiting_38 : decode cX5_waiting 38 = .ok (.sipush 429, 3) := by decide +kernel
theorem dX5_waiting_41 : decode cX5_waiting 41 = .ok (.iload_n 1, 1) := by decide +kernel
theorem dX5_waiting_42 : decode cX5_waiting 42 = .ok (.iadd, 1) := by decide +kernel
theorem dX5_waiting_43 : decode cX5_waiting 43 = .ok (.iaload, 1) := by decide +kernel
theorem dX5_waiting_44 : decode cX5_waiting 44 = .ok (.bipush 6, 2) := by decide +kernel
theorem dX5_waiting_46 : decode cX5_waiting 46 = .ok (.irem, 1) := by decide +kernel
theorem dX5_waiting_47 : decode cX5_waiting 47 = .ok (.iadd, 1) := by decide +kernel
theorem dX5_waiting_48 : decode cX5_waiting 48 = .ok (.goto 5, 3) := by decide +kernel
theorem dX5_waiting_51 : decode cX5_waiting 51 = .ok (.bipush (-9), 2) := by decide +kernel
theorem dX5_waiting_53 : decode cX5_waiting 53 = .ok (.ireturn, 1) := by decide +kernel
theorem dX5_writesOf_0 : decode cX5_writesOf 0 = .ok (.lconst 0, 1) := by decide +kernel
theorem dX5_writesOf_1 : decode cX5_writesOf 1 = .ok (.lstore_n 2, 1) := by decide +kernel
theorem dX5_writesOf_2 : decode cX5_writesOf 2 = .ok (.iconst 0, 1) := by decide +kernel
theorem dX5_writesOf_3 : decode cX5_writesOf 3 = .ok (.istore 4, 2) := by decide +kernel
theorem dX5_writesOf_5 : decode cX5_writesOf 5 = .ok (.iload 4, 2) := by decide +kernel
theorem dX5_writesOf_7 : decode cX5_writesOf 7 = .ok (.aload_n 0, 1) := by decide +kernel
theorem dX5_writesOf_8 : decode cX5_writesOf 8 = .ok (.iload_n 1, 1) := by decide +kernel
theorem dX5_writesOf_9 : decode cX5_writesOf 9 = .ok (.invokevirtual 120, 3) := by decide +kernel
theorem dX5_writesOf_12 : decode cX5_writesOf 12 = .ok (.if_icmp .ge 22, 3) := by decide +kernel
theorem dX5_writesOf_15 : decode cX5_writesOf 15 = .ok (.lload_n 2, 1) := by decide +kernel
theorem dX5_writesOf_16 : decode cX5_writesOf 16 = .ok (.lconst 1, 1) := by decide +kernel
theorem dX5_writesOf_17 : decode cX5_writesOf 17 = .ok (.aload_n 0, 1) := by decide +kernel
theorem dX5_writesOf_18 : decode cX5_writesOf 18 = .ok (.iload_n 1, 1) := by decide +kernel
theorem dX5_writesOf_19 : decode cX5_writesOf 19 = .ok (.iload 4, 2) := by decide +kernel
theorem dX5_writesOf_21 : decode cX5_writesOf 21 = .ok (.iconst 1, 1) := by decide +kernel
theorem dX5_writesOf_22 : decode cX5_writesOf 22 = .ok (.invokevirtual 123, 3) := by decide +kernel
theorem dX5_writesOf_25 : decode cX5_writesOf 25 = .ok (.lshl, 1) := by decide +kernel
theorem dX5_writesOf_26 : decode cX5_writesOf 26 = .ok (.lor, 1) := by decide +kernel
theorem dX5_writesOf_27 : decode cX5_writesOf 27 = .ok (.lstore_n 2, 1) := by decide +kernel
theorem dX5_writesOf_28 : decode cX5_writesOf 28 = .ok (.iinc 4 1, 3) := by decide +kernel
theorem dX5_writesOf_31 : decode cX5_writesOf 31 = .ok (.goto (-26), 3) := by decide +kernel
theorem dX5_writesOf_34 : decode cX5_writesOf 34 = .ok (.lload_n 2, 1) := by decide +kernel
theorem dX5_writesOf_35 : decode cX5_writesOf 35 = .ok (.lreturn, 1) := by decide +kernel
theorem dX5_both_0 : decode cX5_both 0 = .ok (.iload_n 1, 1) := by decide +kernel
theorem dX5_both_1 : decode cX5_both 1 = .ok (.iload_n 2, 1) := by decide +kernel
theorem dX5_both_2 : decode cX5_both 2 = .ok (.invokestatic 147, 3) := by decide +kernel
theorem dX5_both_5 : decode cX5_both 5 = .ok (.ifCond .eq 12, 3) := by decide +kernel
theorem dX5_both_8 : decode cX5_both 8 = .ok (.iload_n 3, 1) := by decide +kernel
theorem dX5_both_9 : decode cX5_both 9 = .ok (.iload 4, 2) := by decide +kernel
theorem dX5_both_11 : decode cX5_both 11 = .ok (.invokestatic 147, 3) := by decide +kernel
theorem dX5_both_14 : decode cX5_both 14 = .ok (.ifCond .ne 5, 3) := by decide +kernel
theorem dX5_both_17 : decode cX5_both 17 = .ok (.iconst (-1), 1) := by decide +kernel
theorem dX5_both_18 : decode cX5_both 18 = .ok (.ireturn, 1) := by decide +kernel
theorem dX5_both_19 : decode cX5_both 19 = .ok (.iload_n 1, 1) := by decide +kernel
theorem dX5_both_20 : decode cX5_both 20 = .ok (.iload_n 2, 1) := by decide +kernel
theorem dX5_both_21 : decode cX5_both 21 = .ok (.invokestatic 79, 3) := by decide +kernel
theorem dX5_both_24 : decode cX5_both 24 = .ok (.istore 5, 2) := by decide +kernel
theorem dX5_both_26 : decode cX5_both 26 = .ok (.iload_n 3, 1) := by decide +kernel
theorem dX5_both_27 : decode cX5_both 27 = .ok (.iload 4, 2) := by decide +kernel
theorem dX5_both_29 : decode cX5_both 29 = .ok (.invokestatic 79, 3) := by decide +kernel
theorem dX5_both_32 : decode cX5_both 32 = .ok (.istore 6, 2) := by decide +kernel
theorem dX5_both_34 : decode cX5_both 34 = .ok (.aload_n 0, 1) := by decide +kernel
theorem dX5_both_35 : decode cX5_both 35 = .ok (.getfield 7, 3) := by decide +kernel
theorem dX5_both_38 : decode cX5_both 38 = .ok (.iload 5, 2) := by decide +kernel
theorem dX5_both_40 : decode cX5_both 40 = .ok (.iconst 0, 1) := by decide +kernel
theorem dX5_both_41 : decode cX5_both 41 = .ok (.iadd, 1) := by decide +kernel
theorem dX5_both_42 : decode cX5_both 42 = .ok (.iaload, 1) := by decide +kernel
theorem dX5_both_43 : decode cX5_both 43 = .ok (.ifCond .eq 15, 3) := by decide +kernel
theorem dX5_both_46 : decode cX5_both 46 = .ok (.aload_n 0, 1) := by decide +kernel
theorem dX5_both_47 : decode cX5_both 47 = .ok (.getfield 7, 3) := by decide +kernel
theorem dX5_both_50 : decode cX5_both 50 = .ok (.iload 6, 2) := by decide +kernel
theorem dX5_both_52 : decode cX5_both 52 = .ok (.iconst 0, 1) := by decide +kernel
theorem dX5_both_53 : decode cX5_both 53 = .ok (.iadd, 1) := by decide +kernel
theorem dX5_both_54 : decode cX5_both 54 = .ok (.iaload, 1) := by decide +kernel
theorem dX5_both_55 : decode cX5_both 55 = .ok (.ifCond .ne 6, 3) := by decide +kernel
theorem dX5_both_58 : decode cX5_both 58 = .ok (.bipush (-9), 2) := by decide +kernel
theorem dX5_both_60 : decode cX5_both 60 = .ok (.ireturn, 1) := by decide +kernel
theorem dX5_both_61 : decode cX5_both 61 = .ok (.aload_n 0, 1) := by decide +kernel
theorem dX5_both_62 : decode cX5_both 62 = .ok (.iload 5, 2) := by decide +kernel
theorem dX5_both_64 : decode cX5_both 64 = .ok (.invokevirtual 151, 3) := by decide +kernel
theorem dX5_both_67 : decode cX5_both 67 = .ok (.aload_n 0, 1) := by decide +kernel
theorem dX5_both_68 : decode cX5_both 68 = .ok (.iload 6, 2) := by decide +kernel
theorem dX5_both_70 : decode cX5_both 70 = .ok (.invokevirtual 151, 3) := by decide +kernel
theorem dX5_both_73 : decode cX5_both 73 = .ok (.land, 1) := by decide +kernel
theorem dX5_both_74 : decode cX5_both 74 = .ok (.lstore 7, 2) := by decide +kernel
theorem dX5_both_76 : decode cX5_both 76 = .ok (.iconst 0, 1) := by decide +kernel
theorem dX5_both_77 : decode cX5_both 77 = .ok (.istore 9, 2) := by decide +kernel
theorem dX5_both_79 : decode cX5_both 79 = .ok (.iconst 0, 1) := by decide +kernel
theorem dX5_both_80 : decode cX5_both 80 = .ok (.istore 10, 2) := by decide +kernel
theorem dX5_both_82 : decode cX5_both 82 = .ok (.iload 10, 2) := by decide +kernel
theorem dX5_both_84 : decode cX5_both 84 = .ok (.bipush 64, 2) := by decide +kernel
theorem dX5_both_86 : decode cX5_both 86 = .ok (.if_icmp .ge 22, 3) := by decide +kernel
theorem dX5_both_89 : decode cX5_both 89 = .ok (.iload 9, 2) := by decide +kernel
theorem dX5_both_91 : decode cX5_both 91 = .ok (.lload 7, 2) := by decide +kernel
theorem dX5_both_93 : decode cX5_both 93 = .ok (.iload 10, 2) := by decide +kernel
theorem dX5_both_95 : decode cX5_both 95 = .ok (.lshr, 1) := by decide +kernel
theorem dX5_both_96 : decode cX5_both 96 = .ok (.lconst 1, 1) := by decide +kernel
theorem dX5_both_97 : decode cX5_both 97 = .ok (.land, 1) := by decide +kernel
theorem dX5_both_98 : decode cX5_both 98 = .ok (.l2i, 1) := by decide +kernel
theorem dX5_both_99 : decode cX5_both 99 = .ok (.iadd, 1) := by decide +kernel
theorem dX5_both_100 : decode cX5_both 100 = .ok (.istore 9, 2) := by decide +kernel
theorem dX5_both_102 : decode cX5_both 102 = .ok (.iinc 10 1, 3) := by decide +kernel
theorem dX5_both_105 : decode cX5_both 105 = .ok (.goto (-23), 3) := by decide +kernel
theorem dX5_both_108 : decode cX5_both 108 = .ok (.iload 9, 2) := by decide +kernel
theorem dX5_both_110 : decode cX5_both 110 = .ok (.ireturn, 1) := by decide +kernel
theorem dX5_hasEngines_0 : decode cX5_hasEngines 0 = .ok (.iconst 0, 1) := by decide +kernel
theorem dX5_hasEngines_1 : decode cX5_hasEngines 1 = .ok (.istore_n 2, 1) := by decide +kernel
theorem dX5_hasEngines_2 : decode cX5_hasEngines 2 = .ok (.iconst 0, 1) := by decide +kernel
theorem dX5_hasEngines_3 : decode cX5_hasEngines 3 = .ok (.istore_n 3, 1) := by decide +kernel
theorem dX5_hasEngines_4 : decode cX5_hasEngines 4 = .ok (.iload_n 3, 1) := by decide +kernel
theorem dX5_hasEngines_5 : decode cX5_hasEngines 5 = .ok (.bipush 6, 2) := by decide +kernel
theorem dX5_hasEngines_7 : decode cX5_hasEngines 7 = .ok (.if_icmp .ge 31, 3) := by decide +kernel
theorem dX5_hasEngines_10 : decode cX5_hasEngines 10 = .ok (.iload_n 2, 1) := by decide +kernel
theorem dX5_hasEngines_11 : decode cX5_hasEngines 11 = .ok (.ifCond .ne 15, 3) := by decide +kernel
theorem dX5_hasEngines_14 : decode cX5_hasEngines 14 = .ok (.aload_n 0, 1) := by decide +kernel
theorem dX5_hasEngines_15 : decode cX5_hasEngines 15 = .ok (.iload_n 1, 1) := by decide +kernel
theorem dX5_hasEngines_16 : decode cX5_hasEngines 16 = .ok (.iload_n 3, 1) := by decide +kernel
theorem dX5_hasEngines_17 : decode cX5_hasEngines 17 = .ok (.invokestatic 79, 3) := by decide +kernel
theorem dX5_hasEngines_20 : decode cX5_hasEngines 20 = .ok (.invokevirtual 83, 3) := by decide +kernel
theorem dX5_hasEngines_23 : decode cX5_hasEngines 23 = .ok (.ifCond .eq 7, 3) := by decide +kernel
theorem dX5_hasEngines_26 : decode cX5_hasEngines 26 = .ok (.iconst 1, 1) := by decide +kernel
theorem dX5_hasEngines_27 : decode cX5_hasEngines 27 = .ok (.goto 4, 3) := by decide +kernel
theorem dX5_hasEngines_30 : decode cX5_hasEngines 30 = .ok (.iconst 0, 1) := by decide +kernel
theorem dX5_hasEngines_31 : decode cX5_hasEngines 31 = .ok (.istore_n 2, 1) := by decide +kernel
theorem dX5_hasEngines_32 : decode cX5_hasEngines 32 = .ok (.iinc 3 1, 3) := by decide +kernel
theorem dX5_hasEngines_35 : decode cX5_hasEngines 35 = .ok (.goto (-31), 3) := by decide +kernel
theorem dX5_hasEngines_38 : decode cX5_hasEngines 38 = .ok (.iload_n 2, 1) := by decide +kernel
theorem dX5_hasEngines_39 : decode cX5_hasEngines 39 = .ok (.ireturn, 1) := by decide +kernel
theorem dX5_overOf_0 : decode cX5_overOf 0 = .ok (.iconst 0, 1) := by decide +kernel
theorem dX5_overOf_1 : decode cX5_overOf 1 = .ok (.istore_n 2, 1) := by decide +kernel
theorem dX5_overOf_2 : decode cX5_overOf 2 = .ok (.iload_n 2, 1) := by decide +kernel
theorem dX5_overOf_3 : decode cX5_overOf 3 = .ok (.sipush 200, 3) := by decide +kernel
theorem dX5_overOf_6 : decode cX5_overOf 6 = .ok (.if_icmp .gt 22, 3) := by decide +kernel
theorem dX5_overOf_9 : decode cX5_overOf 9 = .ok (.aload_n 0, 1) := by decide +kernel
theorem dX5_overOf_10 : decode cX5_overOf 10 = .ok (.iload_n 1, 1) := by decide +kernel
theorem dX5_overOf_11 : decode cX5_overOf 11 = .ok (.invokevirtual 155, 3) := by decide +kernel
theorem dX5_overOf_14 : decode cX5_overOf 14 = .ok (.ifCond .eq 14, 3) := by decide +kernel
theorem dX5_overOf_17 : decode cX5_overOf 17 = .ok (.aload_n 0, 1) := by decide +kernel
theorem dX5_overOf_18 : decode cX5_overOf 18 = .ok (.invokevirtual 137, 3) := by decide +kernel
theorem dX5_overOf_21 : decode cX5_overOf 21 = .ok (.pop, 1) := by decide +kernel
theorem dX5_overOf_22 : decode cX5_overOf 22 = .ok (.iinc 2 1, 3) := by decide +kernel
theorem dX5_overOf_25 : decode cX5_overOf 25 = .ok (.goto (-23), 3) := by decide +kernel
theorem dX5_overOf_28 : decode cX5_overOf 28 = .ok (.iload_n 2, 1) := by decide +kernel
theorem dX5_overOf_29 : decode cX5_overOf 29 = .ok (.sipush 200, 3) := by decide +kernel
theorem dX5_overOf_32 : decode cX5_overOf 32 = .ok (.if_icmp .le 8, 3) := by decide +kernel
theorem dX5_overOf_35 : decode cX5_overOf 35 = .ok (.bipush (-9), 2) := by decide +kernel
theorem dX5_overOf_37 : decode cX5_overOf 37 = .ok (.goto 4, 3) := by decide +kernel
theorem dX5_overOf_40 : decode cX5_overOf 40 = .ok (.iload_n 2, 1) := by decide +kernel
theorem dX5_overOf_41 : decode cX5_overOf 41 = .ok (.ireturn, 1) := by decide +kernel
theorem dX5_over_0 : decode cX5_over 0 = .ok (.iload_n 1, 1) := by decide +kernel
theorem dX5_over_1 : decode cX5_over 1 = .ok (.invokestatic 141, 3) := by decide +kernel
theorem dX5_over_4 : decode cX5_over 4 = .ok (.ifCond .ne 5, 3) := by decide +kernel
theorem dX5_over_7 : decode cX5_over 7 = .ok (.iconst (-1), 1) := by decide +kernel
theorem dX5_over_8 : decode cX5_over 8 = .ok (.ireturn, 1) := by decide +kernel
theorem dX5_over_9 : decode cX5_over 9 = .ok (.aload_n 0, 1) := by decide +kernel
theorem dX5_over_10 : decode cX5_over 10 = .ok (.invokevirtual 105, 3) := by decide +kernel
theorem dX5_over_13 : decode cX5_over 13 = .ok (.aload_n 0, 1) := by decide +kernel
theorem dX5_over_14 : decode cX5_over 14 = .ok (.iload_n 1, 1) := by decide +kernel
theorem dX5_over_15 : decode cX5_over 15 = .ok (.invokevirtual 158, 3) := by decide +kernel
theorem dX5_over_18 : decode cX5_over 18 = .ok (.istore_n 2, 1) := by decide +kernel
theorem dX5_over_19 : decode cX5_over 19 = .ok (.aload_n 0, 1) := by decide +kernel
theorem dX5_over_20 : decode cX5_over 20 = .ok (.invokevirtual 108, 3) := by decide +kernel
theorem dX5_over_23 : decode cX5_over 23 = .ok (.iload_n 2, 1) := by decide +kernel
theorem dX5_over_24 : decode cX5_over 24 = .ok (.ireturn, 1) := by decide +kernel
theorem dX5_lands_0 : decode cX5_lands 0 = .ok (.iload_n 1, 1) := by decide +kernel
theorem dX5_lands_1 : decode cX5_lands 1 = .ok (.iconst 0, 1) := by decide +kernel
theorem dX5_lands_2 : decode cX5_lands 2 = .ok (.bipush 63, 2) := by decide +kernel
theorem dX5_lands_4 : decode cX5_lands 4 = .ok (.invokestatic 38, 3) := by decide +kernel
theorem dX5_lands_7 : decode cX5_lands 7 = .ok (.ifCond .ne 5, 3) := by decide +kernel
theorem dX5_lands_10 : decode cX5_lands 10 = .ok (.iconst (-1), 1) := by decide +kernel
theorem dX5_lands_11 : decode cX5_lands 11 = .ok (.ireturn, 1) := by decide +kernel
theorem dX5_lands_12 : decode cX5_lands 12 = .ok (.iconst 0, 1) := by decide +kernel
theorem dX5_lands_13 : decode cX5_lands 13 = .ok (.istore_n 2, 1) := by decide +kernel
theorem dX5_lands_14 : decode cX5_lands 14 = .ok (.iconst 0, 1) := by decide +kernel
theorem dX5_lands_15 : decode cX5_lands 15 = .ok (.istore_n 3, 1) := by decide +kernel
theorem dX5_lands_16 : decode cX5_lands 16 = .ok (.iload_n 3, 1) := by decide +kernel
theorem dX5_lands_17 : decode cX5_lands 17 = .ok (.bipush 24, 2) := by decide +kernel
theorem dX5_lands_19 : decode cX5_lands 19 = .ok (.if_icmp .ge 97, 3) := by decide +kernel
theorem dX5_lands_22 : decode cX5_lands 22 = .ok (.bipush 92, 2) := by decide +kernel
theorem dX5_lands_24 : decode cX5_lands 24 = .ok (.bipush 14, 2) := by decide +kernel
theorem dX5_lands_26 : decode cX5_lands 26 = .ok (.iload_n 3, 1) := by decide +kernel
theorem dX5_lands_27 : decode cX5_lands 27 = .ok (.imul, 1) := by decide +kernel
theorem dX5_lands_28 : decode cX5_lands 28 = .ok (.iadd, 1) := by decide +kernel
theorem dX5_lands_29 : decode cX5_lands 29 = .ok (.istore 4, 2) := by decide +kernel
theorem dX5_lands_31 : decode cX5_lands 31 = .ok (.aload_n 0, 1) := by decide +kernel
theorem dX5_lands_32 : decode cX5_lands 32 = .ok (.iload 4, 2) := by decide +kernel
theorem dX5_lands_34 : decode cX5_lands 34 = .ok (.invokevirtual 83, 3) := by decide +kernel
theorem dX5_lands_37 : decode cX5_lands 37 = .ok (.ifCond .eq 73, 3) := by decide +kernel
theorem dX5_lands_40 : decode cX5_lands 40 = .ok (.aload_n 0, 1) := by decide +kernel
theorem dX5_lands_41 : decode cX5_lands 41 = .ok (.getfield 7, 3) := by decide +kernel
theorem dX5_lands_44 : decode cX5_lands 44 = .ok (.iload 4, 2) := by decide +kernel
theorem dX5_lands_46 : decode cX5_lands 46 = .ok (.bipush 13, 2) := by decide +kernel
theorem dX5_lands_48 : decode cX5_lands 48 = .ok (.iadd, 1) := by decide +kernel
theorem dX5_lands_49 : decode cX5_lands 49 = .ok (.iaload, 1) := by decide +kernel
theorem dX5_lands_50 : decode cX5_lands 50 = .ok (.ifCond .ne 60, 3) := by decide +kernel
theorem dX5_lands_53 : decode cX5_lands 53 = .ok (.aload_n 0, 1) := by decide +kernel
theorem dX5_lands_54 : decode cX5_lands 54 = .ok (.iload 4, 2) := by decide +kernel
theorem dX5_lands_56 : decode cX5_lands 56 = .ok (.invokevirtual 120, 3) := by decide +kernel
theorem dX5_lands_59 : decode cX5_lands 59 = .ok (.aload_n 0, 1) := by decide +kernel
theorem dX5_lands_60 : decode cX5_lands 60 = .ok (.getfield 7, 3) := by decide +kernel
theorem dX5_lands_63 : decode cX5_lands 63 = .ok (.iload 4, 2) := by decide +kernel
theorem dX5_lands_65 : decode cX5_lands 65 = .ok (.bipush 12, 2) := by decide +kernel
theorem dX5_lands_67 : decode cX5_lands 67 = .ok (.iadd, 1) := by decide +kernel
theorem dX5_lands_68 : decode cX5_lands 68 = .ok (.iaload, 1) := by decide +kernel
theorem dX5_lands_69 : decode cX5_lands 69 = .ok (.isub, 1) := by decide +kernel
theorem dX5_lands_70 : decode cX5_lands 70 = .ok (.istore 5, 2) := by decide +kernel
theorem dX5_lands_72 : decode cX5_lands 72 = .ok (.iload 5, 2) := by decide +kernel
theorem dX5_lands_74 : decode cX5_lands 74 = .ok (.aload_n 0, 1) := by decide +kernel
theorem dX5_lands_75 : decode cX5_lands 75 = .ok (.iload 4, 2) := by decide +kernel
theorem dX5_lands_77 : decode cX5_lands 77 = .ok (.invokevirtual 120, 3) := by decide +kernel
theorem dX5_lands_80 : decode cX5_lands 80 = .ok (.if_icmp .ge 30, 3) := by decide +kernel
theorem dX5_lands_83 : decode cX5_lands 83 = .ok (.iload_n 2, 1) := by decide +kernel
theorem dX5_lands_84 : decode cX5_lands 84 = .ok (.aload_n 0, 1) := by decide +kernel
theorem dX5_lands_85 : decode cX5_lands 85 = .ok (.iload 4, 2) := by decide +kernel
theorem dX5_lands_87 : decode cX5_lands 87 = .ok (.iload 5, 2) := by decide +kernel
theorem dX5_lands_89 : decode cX5_lands 89 = .ok (.iconst 1, 1) := by decide +kernel
theorem dX5_lands_90 : decode cX5_lands 90 = .ok (.invokevirtual 123, 3) := by decide +kernel
theorem dX5_lands_93 : decode cX5_lands 93 = .ok (.iload_n 1, 1) := by decide +kernel
theorem dX5_lands_94 : decode cX5_lands 94 = .ok (.if_icmp .ne 7, 3) := by decide +kernel
theorem dX5_lands_97 : decode cX5_lands 97 = .ok (.iconst 1, 1) := by decide +kernel
theorem dX5_lands_98 : decode cX5_lands 98 = .ok (.goto 4, 3) := by decide +kernel
theorem dX5_lands_101 : decode cX5_lands 101 = .ok (.iconst 0, 1) := by decide +kernel
theorem dX5_lands_102 : decode cX5_lands 102 = .ok (.iadd, 1) := by decide +kernel
theorem dX5_lands_103 : decode cX5_lands 103 = .ok (.istore_n 2, 1) := by decide +kernel
theorem dX5_lands_104 : decode cX5_lands 104 = .ok (.iinc 5 1, 3) := by decide +kernel
theorem dX5_lands_107 : decode cX5_lands 107 = .ok (.goto (-35), 3) := by decide +kernel
theorem dX5_lands_110 : decode cX5_lands 110 = .ok (.iinc 3 1, 3) := by decide +kernel
theorem dX5_lands_113 : decode cX5_lands 113 = .ok (.goto (-97), 3) := by decide +kernel
theorem dX5_lands_116 : decode cX5_lands 116 = .ok (.iload_n 2, 1) := by decide +kernel
theorem dX5_lands_117 : decode cX5_lands 117 = .ok (.ireturn, 1) := by decide +kernel
theorem dX5_enough_0 : decode cX5_enough 0 = .ok (.iload_n 1, 1) := by decide +kernel
theorem dX5_enough_1 : decode cX5_enough 1 = .ok (.invokestatic 141, 3) := by decide +kernel
theorem dX5_enough_4 : decode cX5_enough 4 = .ok (.ifCond .eq 14, 3) := by decide +kernel
theorem dX5_enough_7 : decode cX5_enough 7 = .ok (.iload_n 2, 1) := by decide +kernel
theorem dX5_enough_8 : decode cX5_enough 8 = .ok (.iconst 0, 1) := by decide +kernel
theorem dX5_enough_9 : decode cX5_enough 9 = .ok (.sipush 200, 3) := by decide +kernel
theorem dX5_enough_12 : decode cX5_enough 12 = .ok (.invokestatic 38, 3) := by decide +kernel
theorem dX5_enough_15 : decode cX5_enough 15 = .ok (.ifCond .ne 5, 3) := by decide +kernel
theorem dX5_enough_18 : decode cX5_enough 18 = .ok (.iconst (-1), 1) := by decide +kernel
theorem dX5_enough_19 : decode cX5_enough 19 = .ok (.ireturn, 1) := by decide +kernel
theorem dX5_enough_20 : decode cX5_enough 20 = .ok (.aload_n 0, 1) := by decide +kernel
theorem dX5_enough_21 : decode cX5_enough 21 = .ok (.invokevirtual 105, 3) := by decide +kernel
theorem dX5_enough_24 : decode cX5_enough 24 = .ok (.bipush (-9), 2) := by decide +kernel
theorem dX5_enough_26 : decode cX5_enough 26 = .ok (.istore_n 3, 1) := by decide +kernel
theorem dX5_enough_27 : decode cX5_enough 27 = .ok (.bipush 8, 2) := by decide +kernel
theorem dX5_enough_29 : decode cX5_enough 29 = .ok (.istore 4, 2) := by decide +kernel
theorem dX5_enough_31 : decode cX5_enough 31 = .ok (.iload 4, 2) := by decide +kernel
theorem dX5_enough_33 : decode cX5_enough 33 = .ok (.iconst 1, 1) := by decide +kernel
theorem dX5_enough_34 : decode cX5_enough 34 = .ok (.if_icmp .lt 53, 3) := by decide +kernel
theorem dX5_enough_37 : decode cX5_enough 37 = .ok (.aload_n 0, 1) := by decide +kernel
theorem dX5_enough_38 : decode cX5_enough 38 = .ok (.getfield 7, 3) := by decide +kernel
theorem dX5_enough_41 : decode cX5_enough 41 = .ok (.iload_n 1, 1) := by decide +kernel
theorem dX5_enough_42 : decode cX5_enough 42 = .ok (.invokestatic 75, 3) := by decide +kernel
theorem dX5_enough_45 : decode cX5_enough 45 = .ok (.iconst 2, 1) := by decide +kernel
theorem dX5_enough_46 : decode cX5_enough 46 = .ok (.iadd, 1) := by decide +kernel
theorem dX5_enough_47 : decode cX5_enough 47 = .ok (.iload 4, 2) := by decide +kernel
theorem dX5_enough_49 : decode cX5_enough 49 = .ok (.iastore, 1) := by decide +kernel
theorem dX5_enough_50 : decode cX5_enough 50 = .ok (.aload_n 0, 1) := by decide +kernel
theorem dX5_enough_51 : decode cX5_enough 51 = .ok (.iload_n 1, 1) := by decide +kernel
theorem dX5_enough_52 : decode cX5_enough 52 = .ok (.invokevirtual 158, 3) := by decide +kernel
theorem dX5_enough_55 : decode cX5_enough 55 = .ok (.istore 5, 2) := by decide +kernel
theorem dX5_enough_57 : decode cX5_enough 57 = .ok (.iload 5, 2) := by decide +kernel
theorem dX5_enough_59 : decode cX5_enough 59 = .ok (.bipush (-9), 2) := by decide +kernel
theorem dX5_enough_61 : decode cX5_enough 61 = .ok (.if_icmp .eq 14, 3) := by decide +kernel
theorem dX5_enough_64 : decode cX5_enough 64 = .ok (.iload 5, 2) := by decide +kernel
theorem dX5_enough_66 : decode cX5_enough 66 = .ok (.iload_n 2, 1) := by decide +kernel
theorem dX5_enough_67 : decode cX5_enough 67 = .ok (.if_icmp .gt 8, 3) := by decide +kernel
theorem dX5_enough_70 : decode cX5_enough 70 = .ok (.iload 4, 2) := by decide +kernel
theorem dX5_enough_72 : decode cX5_enough 72 = .ok (.goto 4, 3) := by decide +kernel
theorem dX5_enough_75 : decode cX5_enough 75 = .ok (.iload_n 3, 1) := by decide +kernel
theorem dX5_enough_76 : decode cX5_enough 76 = .ok (.istore_n 3, 1) := by decide +kernel
theorem dX5_enough_77 : decode cX5_enough 77 = .ok (.aload_n 0, 1) := by decide +kernel
theorem dX5_enough_78 : decode cX5_enough 78 = .ok (.invokevirtual 108, 3) := by decide +kernel
theorem dX5_enough_81 : decode cX5_enough 81 = .ok (.iinc 4 (-1), 3) := by decide +kernel
theorem dX5_enough_84 : decode cX5_enough 84 = .ok (.goto (-53), 3) := by decide +kernel
theorem dX5_enough_87 : decode cX5_enough 87 = .ok (.iload_n 3, 1) := by decide +kernel
theorem dX5_enough_88 : decode cX5_enough 88 = .ok (.ireturn, 1) := by decide +kernel
theorem dX5_granted_0 : decode cX5_granted 0 = .ok (.iload_n 1, 1) := by decide +kernel
theorem dX5_granted_1 : decode cX5_granted 1 = .ok (.iconst 1, 1) := by decide +kernel
theorem dX5_granted_2 : decode cX5_granted 2 = .ok (.bipush 40, 2) := by decide +kernel
theorem dX5_granted_4 : decode cX5_granted 4 = .ok (.invokestatic 38, 3) := by decide +kernel
theorem dX5_granted_7 : decode cX5_granted 7 = .ok (.ifCond .ne 5, 3) := by decide +kernel
theorem dX5_granted_10 : decode cX5_granted 10 = .ok (.iconst (-1), 1) := by decide +kernel
theorem dX5_granted_11 : decode cX5_granted 11 = .ok (.ireturn, 1) := by decide +kernel
theorem dX5_granted_12 : decode cX5_granted 12 = .ok (.aload_n 0, 1) := by decide +kernel
theorem dX5_granted_13 : decode cX5_granted 13 = .ok (.invokevirtual 105, 3) := by decide +kernel
theorem dX5_granted_16 : decode cX5_granted 16 = .ok (.bipush (-9), 2) := by decide +kernel
theorem dX5_granted_18 : decode cX5_granted 18 = .ok (.istore_n 2, 1) := by decide +kernel
theorem dX5_granted_19 : decode cX5_granted 19 = .ok (.iconst 0, 1) := by decide +kernel
theorem dX5_granted_20 : decode cX5_granted 20 = .ok (.istore_n 3, 1) := by decide +kernel
theorem dX5_granted_21 : decode cX5_granted 21 = .ok (.iload_n 3, 1) := by decide +kernel
theorem dX5_granted_22 : decode cX5_granted 22 = .ok (.iload_n 1, 1) := by decide +kernel
theorem dX5_granted_23 : decode cX5_granted 23 = .ok (.if_icmp .ge 14, 3) := by decide +kernel
theorem dX5_granted_26 : decode cX5_granted 26 = .ok (.aload_n 0, 1) := by decide +kernel
theorem dX5_granted_27 : decode cX5_granted 27 = .ok (.invokevirtual 137, 3) := by decide +kernel
theorem dX5_granted_30 : decode cX5_granted 30 = .ok (.istore_n 2, 1) := by decide +kernel
theorem dX5_granted_31 : decode cX5_granted 31 = .ok (.iinc 3 1, 3) := by decide +kernel
theorem dX5_granted_34 : decode cX5_granted 34 = .ok (.goto (-13), 3) := by decide +kernel
theorem dX5_granted_37 : decode cX5_granted 37 = .ok (.aload_n 0, 1) := by decide +kernel
theorem dX5_granted_38 : decode cX5_granted 38 = .ok (.invokevirtual 108, 3) := by decide +kernel
theorem dX5_granted_41 : decode cX5_granted 41 = .ok (.iload_n 2, 1) := by decide +kernel
theorem dX5_granted_42 : decode cX5_granted 42 = .ok (.ireturn, 1) := by decide +kernel
theorem dX5_sees_0 : decode cX5_sees 0 = .ok (.iload_n 1, 1) := by decide +kernel
theorem dX5_sees_1 : decode cX5_sees 1 = .ok (.iconst 1, 1) := by decide +kernel
theorem dX5_sees_2 : decode cX5_sees 2 = .ok (.bipush 40, 2) := by decide +kernel
theorem dX5_sees_4 : decode cX5_sees 4 = .ok (.invokestatic 38, 3) := by decide +kernel
theorem dX5_sees_7 : decode cX5_sees 7 = .ok (.ifCond .eq 16, 3) := by decide +kernel
theorem dX5_sees_10 : decode cX5_sees 10 = .ok (.iload_n 2, 1) := by decide +kernel
theorem dX5_sees_11 : decode cX5_sees 11 = .ok (.invokestatic 141, 3) := by decide +kernel
theorem dX5_sees_14 : decode cX5_sees 14 = .ok (.ifCond .ne 11, 3) := by decide +kernel
theorem dX5_sees_17 : decode cX5_sees 17 = .ok (.iload_n 2, 1) := by decide +kernel
theorem dX5_sees_18 : decode cX5_sees 18 = .ok (.bipush (-9), 2) := by decide +kernel
theorem dX5_sees_20 : decode cX5_sees 20 = .ok (.if_icmp .eq 5, 3) := by decide +kernel
theorem dX5_sees_23 : decode cX5_sees 23 = .ok (.iconst (-1), 1) := by decide +kernel
theorem dX5_sees_24 : decode cX5_sees 24 = .ok (.ireturn, 1) := by decide +kernel
theorem dX5_sees_25 : decode cX5_sees 25 = .ok (.aload_n 0, 1) := by decide +kernel
theorem dX5_sees_26 : decode cX5_sees 26 = .ok (.getfield 161, 3) := by decide +kernel
theorem dX5_sees_29 : decode cX5_sees 29 = .ok (.bipush 6, 2) := by decide +kernel
theorem dX5_sees_31 : decode cX5_sees 31 = .ok (.if_icmp .ne 6, 3) := by decide +kernel
theorem dX5_sees_34 : decode cX5_sees 34 = .ok (.bipush (-3), 2) := by decide +kernel
theorem dX5_sees_36 : decode cX5_sees 36 = .ok (.ireturn, 1) := by decide +kernel
theorem dX5_sees_37 : decode cX5_sees 37 = .ok (.aload_n 0, 1) := by decide +kernel
theorem dX5_sees_38 : decode cX5_sees 38 = .ok (.getfield 26, 3) := by decide +kernel
theorem dX5_sees_41 : decode cX5_sees 41 = .ok (.aload_n 0, 1) := by decide +kernel
theorem dX5_sees_42 : decode cX5_sees 42 = .ok (.getfield 161, 3) := by decide +kernel
theorem dX5_sees_45 : decode cX5_sees 45 = .ok (.iload_n 1, 1) := by decide +kernel
theorem dX5_sees_46 : decode cX5_sees 46 = .ok (.iastore, 1) := by decide +kernel
theorem dX5_sees_47 : decode cX5_sees 47 = .ok (.aload_n 0, 1) := by decide +kernel
theorem dX5_sees_48 : decode cX5_sees 48 = .ok (.getfield 29, 3) := by decide +kernel
theorem dX5_sees_51 : decode cX5_sees 51 = .ok (.aload_n 0, 1) := by decide +kernel
theorem dX5_sees_52 : decode cX5_sees 52 = .ok (.getfield 161, 3) := by decide +kernel
theorem dX5_sees_55 : decode cX5_sees 55 = .ok (.iload_n 2, 1) := by decide +kernel
theorem dX5_sees_56 : decode cX5_sees 56 = .ok (.iastore, 1) := by decide +kernel
theorem dX5_sees_57 : decode cX5_sees 57 = .ok (.aload_n 0, 1) := by decide +kernel
theorem dX5_sees_58 : decode cX5_sees 58 = .ok (.dup, 1) := by decide +kernel
theorem dX5_sees_59 : decode cX5_sees 59 = .ok (.getfield 161, 3) := by decide +kernel
theorem dX5_sees_62 : decode cX5_sees 62 = .ok (.iconst 1, 1) := by decide +kernel
theorem dX5_sees_63 : decode cX5_sees 63 = .ok (.iadd, 1) := by decide +kernel
theorem dX5_sees_64 : decode cX5_sees 64 = .ok (.putfield 161, 3) := by decide +kernel
theorem dX5_sees_67 : decode cX5_sees 67 = .ok (.aload_n 0, 1) := by decide +kernel
theorem dX5_sees_68 : decode cX5_sees 68 = .ok (.getfield 161, 3) := by decide +kernel
theorem dX5_sees_71 : decode cX5_sees 71 = .ok (.ireturn, 1) := by decide +kernel
theorem dX5_forget_0 : decode cX5_forget 0 = .ok (.aload_n 0, 1) := by decide +kernel
theorem dX5_forget_1 : decode cX5_forget 1 = .ok (.getfield 161, 3) := by decide +kernel
theorem dX5_forget_4 : decode cX5_forget 4 = .ok (.istore_n 1, 1) := by decide +kernel
theorem dX5_forget_5 : decode cX5_forget 5 = .ok (.aload_n 0, 1) := by decide +kernel
theorem dX5_forget_6 : decode cX5_forget 6 = .ok (.iconst 0, 1) := by decide +kernel
theorem dX5_forget_7 : decode cX5_forget 7 = .ok (.putfield 161, 3) := by decide +kernel
theorem dX5_forget_10 : decode cX5_forget 10 = .ok (.iload_n 1, 1) := by decide +kernel
theorem dX5_forget_11 : decode cX5_forget 11 = .ok (.ireturn, 1) := by decide +kernel
theorem dX5_isSeen_0 : decode cX5_isSeen 0 = .ok (.iconst 1, 1) := by decide +kernel
theorem dX5_isSeen_1 : decode cX5_isSeen 1 = .ok (.istore_n 1, 1) := by decide +kernel
theorem dX5_isSeen_2 : decode cX5_isSeen 2 = .ok (.iconst 1, 1) := by decide +kernel
theorem dX5_isSeen_3 : decode cX5_isSeen 3 = .ok (.istore_n 2, 1) := by decide +kernel
theorem dX5_isSeen_4 : decode cX5_isSeen 4 = .ok (.iload_n 2, 1) := by decide +kernel
theorem dX5_isSeen_5 : decode cX5_isSeen 5 = .ok (.bipush 40, 2) := by decide +kernel
theorem dX5_isSeen_7 : decode cX5_isSeen 7 = .ok (.if_icmp .gt 68, 3) := by decide +kernel
theorem dX5_isSeen_10 : decode cX5_isSeen 10 = .ok (.iload_n 1, 1) := by decide +kernel
theorem dX5_isSeen_11 : decode cX5_isSeen 11 = .ok (.ifCond .eq 64, 3) := by decide +kernel
theorem dX5_isSeen_14 : decode cX5_isSeen 14 = .ok (.aload_n 0, 1) := by decide +kernel
theorem dX5_isSeen_15 : decode cX5_isSeen 15 = .ok (.invokevirtual 137, 3) := by decide +kernel
theorem dX5_isSeen_18 : decode cX5_isSeen 18 = .ok (.istore_n 3, 1) := by decide +kernel
theorem dX5_isSeen_19 : decode cX5_isSeen 19 = .ok (.iconst 0, 1) := by decide +kernel
theorem dX5_isSeen_20 : decode cX5_isSeen 20 = .ok (.istore 4, 2) := by decide +kernel
theorem dX5_isSeen_22 : decode cX5_isSeen 22 = .ok (.iload 4, 2) := by decide +kernel
theorem dX5_isSeen_24 : decode cX5_isSeen 24 = .ok (.aload_n 0, 1) := by decide +kernel
theorem dX5_isSeen_25 : decode cX5_isSeen 25 = .ok (.getfield 161, 3) := by decide +kernel
theorem dX5_isSeen_28 : decode cX5_isSeen 28 = .ok (.if_icmp .ge 41, 3) := by decide +kernel
theorem dX5_isSeen_31 : decode cX5_isSeen 31 = .ok (.iload_n 1, 1) := by decide +kernel
theorem dX5_isSeen_32 : decode cX5_isSeen 32 = .ok (.ifCond .eq 29, 3) := by decide +kernel
theorem dX5_isSeen_35 : decode cX5_isSeen 35 = .ok (.aload_n 0, 1) := by decide +kernel
theorem dX5_isSeen_36 : decode cX5_isSeen 36 = .ok (.getfield 26, 3) := by decide +kernel
theorem dX5_isSeen_39 : decode cX5_isSeen 39 = .ok (.iload 4, 2) := by decide +kernel
theorem dX5_isSeen_41 : decode cX5_isSeen 41 = .ok (.iaload, 1) := by decide +kernel
theorem dX5_isSeen_42 : decode cX5_isSeen 42 = .ok (.iload_n 2, 1) := by decide +kernel
theorem dX5_isSeen_43 : decode cX5_isSeen 43 = .ok (.if_icmp .ne 14, 3) := by decide +kernel
theorem dX5_isSeen_46 : decode cX5_isSeen 46 = .ok (.aload_n 0, 1) := by decide +kernel
theorem dX5_isSeen_47 : decode cX5_isSeen 47 = .ok (.getfield 29, 3) := by decide +kernel
theorem dX5_isSeen_50 : decode cX5_isSeen 50 = .ok (.iload 4, 2) := by decide +kernel
theorem dX5_isSeen_52 : decode cX5_isSeen 52 = .ok (.iaload, 1) := by decide +kernel
theorem dX5_isSeen_53 : decode cX5_isSeen 53 = .ok (.iload_n 3, 1) := by decide +kernel
theorem dX5_isSeen_54 : decode cX5_isSeen 54 = .ok (.if_icmp .ne 7, 3) := by decide +kernel
theorem dX5_isSeen_57 : decode cX5_isSeen 57 = .ok (.iconst 1, 1) := by decide +kernel
theorem dX5_isSeen_58 : decode cX5_isSeen 58 = .ok (.goto 4, 3) := by decide +kernel
theorem dX5_isSeen_61 : decode cX5_isSeen 61 = .ok (.iconst 0, 1) := by decide +kernel
theorem dX5_isSeen_62 : decode cX5_isSeen 62 = .ok (.istore_n 1, 1) := by decide +kernel
theorem dX5_isSeen_63 : decode cX5_isSeen 63 = .ok (.iinc 4 1, 3) := by decide +kernel
theorem dX5_isSeen_66 : decode cX5_isSeen 66 = .ok (.goto (-44), 3) := by decide +kernel
theorem dX5_isSeen_69 : decode cX5_isSeen 69 = .ok (.iinc 2 1, 3) := by decide +kernel
theorem dX5_isSeen_72 : decode cX5_isSeen 72 = .ok (.goto (-68), 3) := by decide +kernel
theorem dX5_isSeen_75 : decode cX5_isSeen 75 = .ok (.iload_n 1, 1) := by decide +kernel
theorem dX5_isSeen_76 : decode cX5_isSeen 76 = .ok (.ireturn, 1) := by decide +kernel
theorem dX5_ranks_0 : decode cX5_ranks 0 = .ok (.iload_n 1, 1) := by decide +kernel
theorem dX5_ranks_1 : decode cX5_ranks 1 = .ok (.invokestatic 141, 3) := by decide +kernel
theorem dX5_ranks_4 : decode cX5_ranks 4 = .ok (.ifCond .ne 5, 3) := by decide +kernel
theorem dX5_ranks_7 : decode cX5_ranks 7 = .ok (.iconst (-1), 1) := by decide +kernel
theorem dX5_ranks_8 : decode cX5_ranks 8 = .ok (.ireturn, 1) := by decide +kernel
theorem dX5_ranks_9 : decode cX5_ranks 9 = .ok (.aload_n 0, 1) := by decide +kernel
theorem dX5_ranks_10 : decode cX5_ranks 10 = .ok (.invokevirtual 105, 3) := by decide +kernel
theorem dX5_ranks_13 : decode cX5_ranks 13 = .ok (.iconst 0, 1) := by decide +kernel
theorem dX5_ranks_14 : decode cX5_ranks 14 = .ok (.istore_n 2, 1) := by decide +kernel
theorem dX5_ranks_15 : decode cX5_ranks 15 = .ok (.iconst 0, 1) := by decide +kernel
theorem dX5_ranks_16 : decode cX5_ranks 16 = .ok (.istore_n 3, 1) := by decide +kernel
theorem dX5_ranks_17 : decode cX5_ranks 17 = .ok (.iload_n 3, 1) := by decide +kernel
theorem dX5_ranks_18 : decode cX5_ranks 18 = .ok (.iconst 4, 1) := by decide +kernel
theorem dX5_ranks_19 : decode cX5_ranks 19 = .ok (.if_icmp .ge 42, 3) := by decide +kernel
theorem dX5_ranks_22 : decode cX5_ranks 22 = .ok (.aload_n 0, 1) := by decide +kernel
theorem dX5_ranks_23 : decode cX5_ranks 23 = .ok (.getfield 7, 3) := by decide +kernel
theorem dX5_ranks_26 : decode cX5_ranks 26 = .ok (.iload_n 1, 1) := by decide +kernel
theorem dX5_ranks_27 : decode cX5_ranks 27 = .ok (.invokestatic 75, 3) := by decide +kernel
theorem dX5_ranks_30 : decode cX5_ranks 30 = .ok (.iconst 1, 1) := by decide +kernel
theorem dX5_ranks_31 : decode cX5_ranks 31 = .ok (.iadd, 1) := by decide +kernel
theorem dX5_ranks_32 : decode cX5_ranks 32 = .ok (.iload_n 3, 1) := by decide +kernel
theorem dX5_ranks_33 : decode cX5_ranks 33 = .ok (.iastore, 1) := by decide +kernel
theorem dX5_ranks_34 : decode cX5_ranks 34 = .ok (.iload_n 2, 1) := by decide +kernel
theorem dX5_ranks_35 : decode cX5_ranks 35 = .ok (.aload_n 0, 1) := by decide +kernel
theorem dX5_ranks_36 : decode cX5_ranks 36 = .ok (.invokevirtual 164, 3) := by decide +kernel
theorem dX5_ranks_39 : decode cX5_ranks 39 = .ok (.ifCond .eq 9, 3) := by decide +kernel
theorem dX5_ranks_42 : decode cX5_ranks 42 = .ok (.iconst 1, 1) := by decide +kernel
theorem dX5_ranks_43 : decode cX5_ranks 43 = .ok (.iload_n 3, 1) := by decide +kernel
theorem dX5_ranks_44 : decode cX5_ranks 44 = .ok (.ishl, 1) := by decide +kernel
theorem dX5_ranks_45 : decode cX5_ranks 45 = .ok (.goto 4, 3) := by decide +kernel
theorem dX5_ranks_48 : decode cX5_ranks 48 = .ok (.iconst 0, 1) := by decide +kernel
theorem dX5_ranks_49 : decode cX5_ranks 49 = .ok (.ior, 1) := by decide +kernel
theorem dX5_ranks_50 : decode cX5_ranks 50 = .ok (.istore_n 2, 1) := by decide +kernel
theorem dX5_ranks_51 : decode cX5_ranks 51 = .ok (.aload_n 0, 1) := by decide +kernel
theorem dX5_ranks_52 : decode cX5_ranks 52 = .ok (.invokevirtual 108, 3) := by decide +kernel
theorem dX5_ranks_55 : decode cX5_ranks 55 = .ok (.iinc 3 1, 3) := by decide +kernel
theorem dX5_ranks_58 : decode cX5_ranks 58 = .ok (.goto (-41), 3) := by decide +kernel
theorem dX5_ranks_61 : decode cX5_ranks 61 = .ok (.iload_n 2, 1) := by decide +kernel
theorem dX5_ranks_62 : decode cX5_ranks 62 = .ok (.ireturn, 1) := by decide +kernel
theorem dX5_engines_0 : decode cX5_engines 0 = .ok (.iconst 0, 1) := by decide +kernel
theorem dX5_engines_1 : decode cX5_engines 1 = .ok (.istore_n 1, 1) := by decide +kernel
theorem dX5_engines_2 : decode cX5_engines 2 = .ok (.iconst 0, 1) := by decide +kernel
theorem dX5_engines_3 : decode cX5_engines 3 = .ok (.istore_n 2, 1) := by decide +kernel
theorem dX5_engines_4 : decode cX5_engines 4 = .ok (.iload_n 2, 1) := by decide +kernel
theorem dX5_engines_5 : decode cX5_engines 5 = .ok (.bipush 24, 2) := by decide +kernel
theorem dX5_engines_7 : decode cX5_engines 7 = .ok (.if_icmp .ge 31, 3) := by decide +kernel
theorem dX5_engines_10 : decode cX5_engines 10 = .ok (.iload_n 1, 1) := by decide +kernel
theorem dX5_engines_11 : decode cX5_engines 11 = .ok (.aload_n 0, 1) := by decide +kernel
theorem dX5_engines_12 : decode cX5_engines 12 = .ok (.bipush 92, 2) := by decide +kernel
theorem dX5_engines_14 : decode cX5_engines 14 = .ok (.bipush 14, 2) := by decide +kernel
theorem dX5_engines_16 : decode cX5_engines 16 = .ok (.iload_n 2, 1) := by decide +kernel
theorem dX5_engines_17 : decode cX5_engines 17 = .ok (.imul, 1) := by decide +kernel
theorem dX5_engines_18 : decode cX5_engines 18 = .ok (.iadd, 1) := by decide +kernel
theorem dX5_engines_19 : decode cX5_engines 19 = .ok (.invokevirtual 83, 3) := by decide +kernel
theorem dX5_engines_22 : decode cX5_engines 22 = .ok (.ifCond .eq 7, 3) := by decide +kernel
theorem dX5_engines_25 : decode cX5_engines 25 = .ok (.iconst 1, 1) := by decide +kernel
theorem dX5_engines_26 : decode cX5_engines 26 = .ok (.goto 4, 3) := by decide +kernel
theorem dX5_engines_29 : decode cX5_engines 29 = .ok (.iconst 0, 1) := by decide +kernel
theorem dX5_engines_30 : decode cX5_engines 30 = .ok (.iadd, 1) := by decide +kernel
theorem dX5_engines_31 : decode cX5_engines 31 = .ok (.istore_n 1, 1) := by decide +kernel
theorem dX5_engines_32 : decode cX5_engines 32 = .ok (.iinc 2 1, 3) := by decide +kernel
theorem dX5_engines_35 : decode cX5_engines 35 = .ok (.goto (-31), 3) := by decide +kernel
theorem dX5_engines_38 : decode cX5_engines 38 = .ok (.iload_n 1, 1) := by decide +kernel
theorem dX5_engines_39 : decode cX5_engines 39 = .ok (.ireturn, 1) := by decide +kernel
theorem dX5_keep_0 : decode cX5_keep 0 = .ok (.iload_n 1, 1) := by decide +kernel
theorem dX5_keep_1 : decode cX5_keep 1 = .ok (.iconst 0, 1) := by decide +kernel
theorem dX5_keep_2 : decode cX5_keep 2 = .ok (.iconst 1, 1) := by decide +kernel
theorem dX5_keep_3 : decode cX5_keep 3 = .ok (.invokestatic 38, 3) := by decide +kernel
theorem dX5_keep_6 : decode cX5_keep 6 = .ok (.ifCond .ne 5, 3) := by decide +kernel
theorem dX5_keep_9 : decode cX5_keep 9 = .ok (.iconst (-1), 1) := by decide +kernel
theorem dX5_keep_10 : decode cX5_keep 10 = .ok (.ireturn, 1) := by decide +kernel
theorem dX5_keep_11 : decode cX5_keep 11 = .ok (.iconst 0, 1) := by decide +kernel
theorem dX5_keep_12 : decode cX5_keep 12 = .ok (.istore_n 2, 1) := by decide +kernel
theorem dX5_keep_13 : decode cX5_keep 13 = .ok (.iload_n 2, 1) := by decide +kernel
theorem dX5_keep_14 : decode cX5_keep 14 = .ok (.sipush 455, 3) := by decide +kernel
theorem dX5_keep_17 : decode cX5_keep 17 = .ok (.if_icmp .ge 27, 3) := by decide +kernel
theorem dX5_keep_20 : decode cX5_keep 20 = .ok (.aload_n 0, 1) := by decide +kernel
theorem dX5_keep_21 : decode cX5_keep 21 = .ok (.getfield 20, 3) := by decide +kernel
theorem dX5_keep_24 : decode cX5_keep 24 = .ok (.sipush 455, 3) := by decide +kernel
theorem dX5_keep_27 : decode cX5_keep 27 = .ok (.iload_n 1, 1) := by decide +kernel
theorem dX5_keep_28 : decode cX5_keep 28 = .ok (.imul, 1) := by decide +kernel
theorem dX5_keep_29 : decode cX5_keep 29 = .ok (.iload_n 2, 1) := by decide +kernel
theorem dX5_keep_30 : decode cX5_keep 30 = .ok (.iadd, 1) := by decide +kernel
theorem dX5_keep_31 : decode cX5_keep 31 = .ok (.aload_n 0, 1) := by decide +kernel
theorem dX5_keep_32 : decode cX5_keep 32 = .ok (.getfield 7, 3) := by decide +kernel
theorem dX5_keep_35 : decode cX5_keep 35 = .ok (.iload_n 2, 1) := by decide +kernel
theorem dX5_keep_36 : decode cX5_keep 36 = .ok (.iaload, 1) := by decide +kernel
theorem dX5_keep_37 : decode cX5_keep 37 = .ok (.iastore, 1) := by decide +kernel
theorem dX5_keep_38 : decode cX5_keep 38 = .ok (.iinc 2 1, 3) := by decide +kernel
theorem dX5_keep_41 : decode cX5_keep 41 = .ok (.goto (-28), 3) := by decide +kernel
theorem dX5_keep_44 : decode cX5_keep 44 = .ok (.aload_n 0, 1) := by decide +kernel
theorem dX5_keep_45 : decode cX5_keep 45 = .ok (.getfield 16, 3) := by decide +kernel
theorem dX5_keep_48 : decode cX5_keep 48 = .ok (.iload_n 1, 1) := by decide +kernel
theorem dX5_keep_49 : decode cX5_keep 49 = .ok (.iconst 1, 1) := by decide +kernel
theorem dX5_keep_50 : decode cX5_keep 50 = .ok (.bastore, 1) := by decide +kernel
theorem dX5_keep_51 : decode cX5_keep 51 = .ok (.aload_n 0, 1) := by decide +kernel
theorem dX5_keep_52 : decode cX5_keep 52 = .ok (.invokevirtual 167, 3) := by decide +kernel
theorem dX5_keep_55 : decode cX5_keep 55 = .ok (.ireturn, 1) := by decide +kernel
theorem dX5_back_0 : decode cX5_back 0 = .ok (.iload_n 1, 1) := by decide +kernel
theorem dX5_back_1 : decode cX5_back 1 = .ok (.iconst 0, 1) := by decide +kernel
theorem dX5_back_2 : decode cX5_back 2 = .ok (.iconst 1, 1) := by decide +kernel
theorem dX5_back_3 : decode cX5_back 3 = .ok (.invokestatic 38, 3) := by decide +kernel
theorem dX5_back_6 : decode cX5_back 6 = .ok (.ifCond .ne 5, 3) := by decide +kernel
theorem dX5_back_9 : decode cX5_back 9 = .ok (.iconst (-1), 1) := by decide +kernel
theorem dX5_back_10 : decode cX5_back 10 = .ok (.ireturn, 1) := by decide +kernel
theorem dX5_back_11 : decode cX5_back 11 = .ok (.aload_n 0, 1) := by decide +kernel
theorem dX5_back_12 : decode cX5_back 12 = .ok (.getfield 16, 3) := by decide +kernel
theorem dX5_back_15 : decode cX5_back 15 = .ok (.iload_n 1, 1) := by decide +kernel
theorem dX5_back_16 : decode cX5_back 16 = .ok (.baload, 1) := by decide +kernel
theorem dX5_back_17 : decode cX5_back 17 = .ok (.ifCond .ne 6, 3) := by decide +kernel
theorem dX5_back_20 : decode cX5_back 20 = .ok (.bipush (-2), 2) := by decide +kernel
theorem dX5_back_22 : decode cX5_back 22 = .ok (.ireturn, 1) := by decide +kernel
theorem dX5_back_23 : decode cX5_back 23 = .ok (.iconst 0, 1) := by decide +kernel
theorem dX5_back_24 : decode cX5_back 24 = .ok (.istore_n 2, 1) := by decide +kernel
theorem dX5_back_25 : decode cX5_back 25 = .ok (.iload_n 2, 1) := by decide +kernel
theorem dX5_back_26 : decode cX5_back 26 = .ok (.sipush 455, 3) := by decide +kernel
theorem dX5_back_29 : decode cX5_back 29 = .ok (.if_icmp .ge 27, 3) := by decide +kernel
theorem dX5_back_32 : decode cX5_back 32 = .ok (.aload_n 0, 1) := by decide +kernel
theorem dX5_back_33 : decode cX5_back 33 = .ok (.getfield 7, 3) := by decide +kernel
theorem dX5_back_36 : decode cX5_back 36 = .ok (.iload_n 2, 1) := by decide +kernel
theorem dX5_back_37 : decode cX5_back 37 = .ok (.aload_n 0, 1) := by decide +kernel
theorem dX5_back_38 : decode cX5_back 38 = .ok (.getfield 20, 3) := by decide +kernel
theorem dX5_back_41 : decode cX5_back 41 = .ok (.sipush 455, 3) := by decide +kernel
theorem dX5_back_44 : decode cX5_back 44 = .ok (.iload_n 1, 1) := by decide +kernel
theorem dX5_back_45 : decode cX5_back 45 = .ok (.imul, 1) := by decide +kernel
theorem dX5_back_46 : decode cX5_back 46 = .ok (.iload_n 2, 1) := by decide +kernel
theorem dX5_back_47 : decode cX5_back 47 = .ok (.iadd, 1) := by decide +kernel
theorem dX5_back_48 : decode cX5_back 48 = .ok (.iaload, 1) := by decide +kernel
theorem dX5_back_49 : decode cX5_back 49 = .ok (.iastore, 1) := by decide +kernel
theorem dX5_back_50 : decode cX5_back 50 = .ok (.iinc 2 1, 3) := by decide +kernel
theorem dX5_back_53 : decode cX5_back 53 = .ok (.goto (-28), 3) := by decide +kernel
theorem dX5_back_56 : decode cX5_back 56 = .ok (.aload_n 0, 1) := by decide +kernel
theorem dX5_back_57 : decode cX5_back 57 = .ok (.iconst 0, 1) := by decide +kernel
theorem dX5_back_58 : decode cX5_back 58 = .ok (.putfield 98, 3) := by decide +kernel
theorem dX5_back_61 : decode cX5_back 61 = .ok (.aload_n 0, 1) := by decide +kernel
theorem dX5_back_62 : decode cX5_back 62 = .ok (.invokevirtual 167, 3) := by decide +kernel
theorem dX5_back_65 : decode cX5_back 65 = .ok (.ireturn, 1) := by decide +kernel
theorem dX5_count_0 : decode cX5_count 0 = .ok (.iload_n 1, 1) := by decide +kernel
theorem dX5_count_1 : decode cX5_count 1 = .ok (.tableswitch 90 0 6 #[43, 48, 57, 66, 71, 76, 81], 43) := by decide +kernel
theorem dX5_count_44 : decode cX5_count 44 = .ok (.aload_n 0, 1) := by decide +kernel
theorem dX5_count_45 : decode cX5_count 45 = .ok (.invokevirtual 167, 3) := by decide +kernel
theorem dX5_count_48 : decode cX5_count 48 = .ok (.ireturn, 1) := by decide +kernel
theorem dX5_count_49 : decode cX5_count 49 = .ok (.aload_n 0, 1) := by decide +kernel
theorem dX5_count_50 : decode cX5_count 50 = .ok (.getfield 7, 3) := by decide +kernel
theorem dX5_count_53 : decode cX5_count 53 = .ok (.sipush 428, 3) := by decide +kernel
theorem dX5_count_56 : decode cX5_count 56 = .ok (.iaload, 1) := by decide +kernel
theorem dX5_count_57 : decode cX5_count 57 = .ok (.ireturn, 1) := by decide +kernel
theorem dX5_count_58 : decode cX5_count 58 = .ok (.aload_n 0, 1) := by decide +kernel
theorem dX5_count_59 : decode cX5_count 59 = .ok (.getfield 7, 3) := by decide +kernel
theorem dX5_count_62 : decode cX5_count 62 = .ok (.sipush 453, 3) := by decide +kernel
theorem dX5_count_65 : decode cX5_count 65 = .ok (.iaload, 1) := by decide +kernel
theorem dX5_count_66 : decode cX5_count 66 = .ok (.ireturn, 1) := by decide +kernel
theorem dX5_count_67 : decode cX5_count 67 = .ok (.aload_n 0, 1) := by decide +kernel
theorem dX5_count_68 : decode cX5_count 68 = .ok (.getfield 161, 3) := by decide +kernel
theorem dX5_count_71 : decode cX5_count 71 = .ok (.ireturn, 1) := by decide +kernel
theorem dX5_count_72 : decode cX5_count 72 = .ok (.aload_n 0, 1) := by decide +kernel
theorem dX5_count_73 : decode cX5_count 73 = .ok (.getfield 42, 3) := by decide +kernel
theorem dX5_count_76 : decode cX5_count 76 = .ok (.ireturn, 1) := by decide +kernel
theorem dX5_count_77 : decode cX5_count 77 = .ok (.aload_n 0, 1) := by decide +kernel
theorem dX5_count_78 : decode cX5_count 78 = .ok (.getfield 98, 3) := by decide +kernel
theorem dX5_count_81 : decode cX5_count 81 = .ok (.ireturn, 1) := by decide +kernel
theorem dX5_count_82 : decode cX5_count 82 = .ok (.aload_n 0, 1) := by decide +kernel
theorem dX5_count_83 : decode cX5_count 83 = .ok (.getfield 7, 3) := by decide +kernel
theorem dX5_count_86 : decode cX5_count 86 = .ok (.sipush 454, 3) := by decide +kernel
theorem dX5_count_89 : decode cX5_count 89 = .ok (.iaload, 1) := by decide +kernel
theorem dX5_count_90 : decode cX5_count 90 = .ok (.ireturn, 1) := by decide +kernel
theorem dX5_count_91 : decode cX5_count 91 = .ok (.iconst (-1), 1) := by decide +kernel
theorem dX5_count_92 : decode cX5_count 92 = .ok (.ireturn, 1) := by decide +kernel
end
section
section PU1
variable {D : DX} {Γ : GX} {y : MethodName} {cc : ByteArray} {nL : Nat} {ret : Option FieldType} {R : Room} {Q : State → Prop} {k n : Nat} {w : va_W} {pc : Nat} {lv : List (Nat × Value)} {st : List Value}
theorem j_icmp_eq_N {a b : Nat} {off : Int} {tgt : Nat} (hdg : decode cc pc = .ok (.if_icmp .eq off, 3)) (ht : (pc : Int) + off = (tgt : Int)) (hab : a < 2 ^ 31 ∧ b < 2 ^ 31) (k1 : a = b → J D Γ y cc nL ret R Q k n w tgt lv st) (k2 : ¬ a = b → J D Γ y cc nL ret R Q k n w (pc + 3) lv st) : J D Γ y cc nL ret R Q k n w pc lv (.int (nI b) :: .int (nI a) :: st) := j_icmp_eq hdg ht (fun q => k1 ((nI_eq hab.1 hab.2).mp q)) (fun q => k2 (fun z => q ((nI_eq hab.1 hab.2).mpr z)))
theorem j_icmp_ne_N {a b : Nat} {off : Int} {tgt : Nat} (hdg : decode cc pc = .ok (.if_icmp .ne off, 3)) (ht : (pc : Int) + off = (tgt : Int)) (hab : a < 2 ^ 31 ∧ b < 2 ^ 31) (k1 : ¬ a = b → J D Γ y cc nL ret R Q k n w tgt lv st) (k2 : a = b → J D Γ y cc nL ret R Q k n w (pc + 3) lv st) : J D Γ y cc nL ret R Q k n w pc lv (.int (nI b) :: .int (nI a) :: st) := j_icmp_ne hdg ht (fun q => k1 (fun z => q ((nI_eq hab.1 hab.2).mpr z))) (fun q => k2 ((nI_eq hab.1 hab.2).mp q))
theorem j_icmp_lt_N {a b : Nat} {off : Int} {tgt : Nat} (hdg : decode cc pc = .ok (.if_icmp .lt off, 3)) (ht : (pc : Int) + off = (tgt : Int)) (hab : a < 2 ^ 31 ∧ b < 2 ^ 31) (k1 : a < b → J D Γ y cc nL ret R Q k n w tgt lv st) (k2 : ¬ a < b → J D Γ y cc nL ret R Q k n w (pc + 3) lv st) : J D Γ y cc nL ret R Q k n w pc lv (.int (nI b) :: .int (nI a) :: st) := j_icmp_lt hdg ht (fun q => k1 ((nI_ltI hab.1 hab.2).mp q)) (fun q => k2 (fun z => q ((nI_ltI hab.1 hab.2).mpr z)))
theorem j_icmp_ge_N {a b : Nat} {off : Int} {tgt : Nat} (hdg : decode cc pc = .ok (.if_icmp .ge off, 3)) (ht : (pc : Int) + off = (tgt : Int)) (hab : a < 2 ^ 31 ∧ b < 2 ^ 31) (k1 : b ≤ a → J D Γ y cc nL ret R Q k n w tgt lv st) (k2 : ¬ b ≤ a → J D Γ y cc nL ret R Q k n w (pc + 3) lv st) : J D Γ y cc nL ret R Q k n w pc lv (.int (nI b) :: .int (nI a) :: st) := j_icmp_ge hdg ht (fun q => k1 ((nI_leI hab.2 hab.1).mp q)) (fun q => k2 (fun z => q ((nI_leI hab.2 hab.1).mpr z)))
theorem j_icmp_gt_N {a b : Nat} {off : Int} {tgt : Nat} (hdg : decode cc pc = .ok (.if_icmp .gt off, 3)) (ht : (pc : Int) + off = (tgt : Int)) (hab : a < 2 ^ 31 ∧ b < 2 ^ 31) (k1 : b < a → J D Γ y cc nL ret R Q k n w tgt lv st) (k2 : ¬ b < a → J D Γ y cc nL ret R Q k n w (pc + 3) lv st) : J D Γ y cc nL ret R Q k n w pc lv (.int (nI b) :: .int (nI a) :: st) := j_icmp_gt hdg ht (fun q => k1 ((nI_ltI hab.2 hab.1).mp q)) (fun q => k2 (fun z => q ((nI_ltI hab.2 hab.1).mpr z)))
theorem j_icmp_le_N {a b : Nat} {off : Int} {tgt : Nat} (hdg : decode cc pc = .ok (.if_icmp .le off, 3)) (ht : (pc : Int) + off = (tgt : Int)) (hab : a < 2 ^ 31 ∧ b < 2 ^ 31) (k1 : a ≤ b → J D Γ y cc nL ret R Q k n w tgt lv st) (k2 : ¬ a ≤ b → J D Γ y cc nL ret R Q k n w (pc + 3) lv st) : J D Γ y cc nL ret R Q k n w pc lv (.int (nI b) :: .int (nI a) :: st) := j_icmp_le hdg ht (fun q => k1 ((nI_leI hab.1 hab.2).mp q)) (fun q => k2 (fun z => q ((nI_leI hab.1 hab.2).mpr z)))
theorem j_if_eq_N {a : Nat} {off : Int} {tgt : Nat} (hdg : decode cc pc = .ok (.ifCond .eq off, 3)) (ht : (pc : Int) + off = (tgt : Int)) (ha : a < 2 ^ 31) (k1 : a = 0 → J D Γ y cc nL ret R Q k n w tgt lv st) (k2 : ¬ a = 0 → J D Γ y cc nL ret R Q k n w (pc + 3) lv st) : J D Γ y cc nL ret R Q k n w pc lv (.int (nI a) :: st) := j_if_eq hdg ht (fun q => k1 ((nI_eq ha (by decide : (0 : Nat) < 2 ^ 31)).mp q)) (fun q => k2 (fun z => q ((nI_eq ha (by decide : (0 : Nat) < 2 ^ 31)).mpr z)))
theorem j_if_ne_N {a : Nat} {off : Int} {tgt : Nat} (hdg : decode cc pc = .ok (.ifCond .ne off, 3)) (ht : (pc : Int) + off = (tgt : Int)) (ha : a < 2 ^ 31) (k1 : ¬ a = 0 → J D Γ y cc nL ret R Q k n w tgt lv st) (k2 : a = 0 → J D Γ y cc nL ret R Q k n w (pc + 3) lv st) : J D Γ y cc nL ret R Q k n w pc lv (.int (nI a) :: st) := j_if_ne hdg ht (fun q => k1 (fun z => q ((nI_eq ha (by decide : (0 : Nat) < 2 ^ 31)).mpr z))) (fun q => k2 ((nI_eq ha (by decide : (0 : Nat) < 2 ^ 31)).mp q))
theorem j_if_lt_N {a : Nat} {off : Int} {tgt : Nat} (hdg : decode cc pc = .ok (.ifCond .lt off, 3)) (ht : (pc : Int) + off = (tgt : Int)) (ha : a < 2 ^ 31) (k1 : a < 0 → J D Γ y cc nL ret R Q k n w tgt lv st) (k2 : ¬ a < 0 → J D Γ y cc nL ret R Q k n w (pc + 3) lv st) : J D Γ y cc nL ret R Q k n w pc lv (.int (nI a) :: st) := j_if_lt hdg ht (fun q => k1 ((nI_ltI ha (by decide : (0 : Nat) < 2 ^ 31)).mp q)) (fun q => k2 (fun z => q ((nI_ltI ha (by decide : (0 : Nat) < 2 ^ 31)).mpr z)))
theorem j_if_ge_N {a : Nat} {off : Int} {tgt : Nat} (hdg : decode cc pc = .ok (.ifCond .ge off, 3)) (ht : (pc : Int) + off = (tgt : Int)) (ha : a < 2 ^ 31) (k1 : 0 ≤ a → J D Γ y cc nL ret R Q k n w tgt lv st) (k2 : ¬ 0 ≤ a → J D Γ y cc nL ret R Q k n w (pc + 3) lv st) : J D Γ y cc nL ret R Q k n w pc lv (.int (nI a) :: st) := j_if_ge hdg ht (fun q => k1 ((nI_leI (by decide : (0 : Nat) < 2 ^ 31) ha).mp q)) (fun q => k2 (fun z => q ((nI_leI (by decide : (0 : Nat) < 2 ^ 31) ha).mpr z)))
theorem j_if_gt_N {a : Nat} {off : Int} {tgt : Nat} (hdg : decode cc pc = .ok (.ifCond .gt off, 3)) (ht : (pc : Int) + off = (tgt : Int)) (ha : a < 2 ^ 31) (k1 : 0 < a → J D Γ y cc nL ret R Q k n w tgt lv st) (k2 : ¬ 0 < a → J D Γ y cc nL ret R Q k n w (pc + 3) lv st) : J D Γ y cc nL ret R Q k n w pc lv (.int (nI a) :: st) := j_if_gt hdg ht (fun q => k1 ((nI_ltI (by decide : (0 : Nat) < 2 ^ 31) ha).mp q)) (fun q => k2 (fun z => q ((nI_ltI (by decide : (0 : Nat) < 2 ^ 31) ha).mpr z)))
theorem j_if_le_N {a : Nat} {off : Int} {tgt : Nat} (hdg : decode cc pc = .ok (.ifCond .le off, 3)) (ht : (pc : Int) + off = (tgt : Int)) (ha : a < 2 ^ 31) (k1 : a ≤ 0 → J D Γ y cc nL ret R Q k n w tgt lv st) (k2 : ¬ a ≤ 0 → J D Γ y cc nL ret R Q k n w (pc + 3) lv st) : J D Γ y cc nL ret R Q k n w pc lv (.int (nI a) :: st) := j_if_le hdg ht (fun q => k1 ((nI_leI ha (by decide : (0 : Nat) < 2 ^ 31)).mp q)) (fun q => k2 (fun z => q ((nI_leI ha (by decide : (0 : Nat) < 2 ^ 31)).mpr z)))
theorem nI_cl {j : Nat} (h : j < 2 ^ 31) : (nI j).toNatClampNeg = j := nI_clamp h
theorem j_copy {a a0 N0 N1 idx : Nat} {f g : Nat → Int32} {w2 : va_W} (hl2 : Cond.methodLink y.cls idx arraycopyName ∈ lw_g) (hdg : decode cc pc = .ok (.invokestatic idx, 3)) (q0 q1 sp dp m0 : Nat) {x1 x2 x3 : Int32} (e1 : x1 = nI sp) (e2 : x2 = nI dp) (e3 : x3 = nI m0) (ha0 : w[q0]? = some (a0, .inl (dI D, N0, .inl f))) (ha1 : w[q1]? = some (a, .inl (dI D, N1, .inl g))) (b1 : sp < 2 ^ 31) (b2 : dp < 2 ^ 31) (b3 : m0 < 2 ^ 31) (h4 : sp + m0 ≤ N0) (h5 : dp + m0 ≤ N1) (hfr : 1 ≤ R.frames ∧ (st.map fun v => v.category).sum + 40 ≤ R.locals) (hw : w.set q1 (a, .inl (dI D, N1, .inl (va_cpy f g sp dp m0))) = w2) (kk : J D Γ y cc nL ret R Q k n w2 (pc + 3) lv st) : J D Γ y cc nL ret R Q k n w pc lv (.int x3 :: .int x2 :: .ref a :: .int x1 :: .ref a0 :: st) := by
  subst e1; subst e2; subst e3
  obtain ⟨p, e, s, m, args, below, meth, c, A⟩ := Γ
  intro h H locs ls hP hD hS hl
  have ht := h.2.2.2.2.2.1
  refine va_copyi h.1 h.2.1 (h.2.2.2.1.trans hl.1.symm) h.2.2.2.2.1 (ht _ hl2) (ht _ m_na_arraycopyName) (ht _ m_st_arraycopyName) (ht _ m_in_J10) h.2.2.2.2.2.2.2.1 hP hD hS q0 q1 0 0 ha0 ha1 rfl rfl rfl (nI_pos b1) (nI_pos b2) (nI_pos b3) (by rw [nI_cl b1, nI_cl b3]; exact h4) (by rw [nI_cl b2, nI_cl b3]; exact h5) (fun _ _ => rfl) hfr.1 (Nat.le_trans (Nat.add_le_add_left (by decide +kernel) _) hfr.2) hdg (fun H1 locs1 hP hD hS => ?_)
  rw [nI_cl b1, nI_cl b2, nI_cl b3, hw] at hP hD
  exact kk h H1 locs1 ls hP hD hS hl
theorem j_gs {q : String × String × String × Nat × Nat × (Nat → Int32)} {idx : Nat} (hl2 : Cond.fieldLink y.cls idx q.1 q.2.1 q.2.2.1 ∈ lw_g) (hq : q ∈ D.2.2.2) (hdg : decode cc pc = .ok (.getstatic idx, 3)) (kk : J D Γ y cc nL ret R Q k n w (pc + 3) lv (.ref q.2.2.2.1 :: st)) : J D Γ y cc nL ret R Q k n w pc lv st := by
  obtain ⟨p, e, s, m, args, below, meth, c, A⟩ := Γ
  intro h H locs ls hP hD hS hl
  exact va_gets h.1 h.2.1 (h.2.2.2.2.2.2.2.2.2.2.1 q hq).1 hS h.2.2.2.2.1 (h.2.2.2.2.2.1 _ hl2) (fun _ h9 => h9) hdg (kk h H locs ls hP hD hS hl)
theorem j_ti {q : String × String × String × Nat × Nat × (Nat → Int32)} {i v : Int32} (hq : q ∈ D.2.2.2) (hdg : decode cc pc = .ok (.iaload, 1)) (j : Nat) (hi : i = nI j) (hj : j < q.2.2.2.2.1) (hN : q.2.2.2.2.1 < 2 ^ 31) (hv : q.2.2.2.2.2 j = v) (kk : J D Γ y cc nL ret R Q k n w (pc + 1) lv (.int v :: st)) : J D Γ y cc nL ret R Q k n w pc lv (.int i :: .ref q.2.2.2.1 :: st) := by
  subst hi
  obtain ⟨p, e, s, m, args, below, meth, c, A⟩ := Γ
  intro h H locs ls hP hD hS hl
  exact va_ti h.1 h.2.1 (h.2.2.2.2.2.2.2.2.2.2.1 q hq).2 hS (vp_in_nI hj hN) (v := .int v) (by rw [nI_clamp (Nat.lt_trans hj hN), hv]) hdg (kk h H locs ls hP hD hS hl)
theorem j_tlen {q : String × String × String × Nat × Nat × (Nat → Int32)} {v : Int32} (hq : q ∈ D.2.2.2) (hdg : decode cc pc = .ok (.arraylength, 1)) (hv : Int32.ofNat q.2.2.2.2.1 = v) (kk : J D Γ y cc nL ret R Q k n w (pc + 1) lv (.int v :: st)) : J D Γ y cc nL ret R Q k n w pc lv (.ref q.2.2.2.1 :: st) := by
  obtain ⟨p, e, s, m, args, below, meth, c, A⟩ := Γ
  intro h H locs ls hP hD hS hl
  exact va_tlen h.1 h.2.1 (h.2.2.2.2.2.2.2.2.2.2.1 q hq).2 hS hv hdg (kk h H locs ls hP hD hS hl)
end PU1
/-! the engine's state as one row of numbers s: bytes 0 .. 63; channels 64 + 7 c + j; letters 92 + 14 p (has), 93 + 14 p + j; 428 how many wait; 429 .. who; 453 last; 454 ticks -/
abbrev SS : Type := Nat → Int32
def vM (s : SS) : SS := fun k => if k < 64 then s k else 0
def vC (s : SS) : SS := fun k => if k < 28 then s (64 + k) else 0
def vL (s : SS) : SS := fun k => if k < 312 then s (93 + 14 * (k / 13) + k % 13) else 0
def vQ (s : SS) : SS := fun k => if k < 24 then s (429 + k) else 0
abbrev EW (D : DX) (E : Nat → Nat) (s : SS) : va_W := [(E 0, .inr (0, [.ref (E 1), .ref (E 2), .ref (E 3), .ref (E 4), .int (s 428), .int (s 453), .int (s 454)])), (E 1, .inl (dI D, 64, .inl (vM s))), (E 2, .inl (dI D, 28, .inl (vC s))), (E 3, .inl (dI D, 312, .inl (vL s))), (E 4, .inl (dI D, 24, .inl (vQ s)))]
abbrev gC (s : SS) (c j : Nat) : Int32 := s (64 + 7 * c + j)
abbrev gL (s : SS) (p j : Nat) : Int32 := s (93 + 14 * p + j)
theorem vM_at {s : SS} {k : Nat} (h : k < 64) : vM s k = s k := by simp [vM, h]
theorem vC_at {s : SS} {c j : Nat} (hc : c < 4) (hj : j < 7) : vC s (c * 7 + j) = gC s c j := by
  unfold vC gC
  rw [if_pos (by omega)]
  congr 1; omega
theorem vL_at {s : SS} {p j : Nat} (hp : p < 24) (hj : j < 13) : vL s (p * 13 + j) = gL s p j := by
  unfold vL gL
  rw [if_pos (by omega)]
  congr 1; omega
theorem vQ_at {s : SS} {k : Nat} (h : k < 24) : vQ s k = s (429 + k) := by simp [vQ, h]
theorem vM_up {s : SS} {k : Nat} {x : Int32} (h : 64 ≤ k) : vM (upd s k x) = vM s := by
  funext j; unfold vM upd
  split
  · rw [if_neg (by omega)]
  · rfl
theorem vC_up {s : SS} {k : Nat} {x : Int32} (h : k < 64 ∨ 92 ≤ k) : vC (upd s k x) = vC s := by
  funext j; unfold vC upd
  split
  · rw [if_neg (by omega)]
  · rfl
theorem vL_up {s : SS} {k : Nat} {x : Int32} (h : k < 93 ∨ 428 ≤ k) : vL (upd s k x) = vL s := by
  funext j; unfold vL upd
  split
  · rw [if_neg (by omega)]
  · rfl
theorem vQ_up {s : SS} {k : Nat} {x : Int32} (h : k < 429 ∨ 453 ≤ k) : vQ (upd s k x) = vQ s := by
  funext j; unfold vQ upd
  split
  · rw [if_neg (by omega)]
  · rfl
theorem vM_set {s : SS} {k : Nat} {x : Int32} (h : k < 64) : upd (vM s) k x = vM (upd s k x) := by
  funext j; unfold vM upd
  by_cases e : j = k
  · subst e; simp [h]
  · simp [e]
theorem vC_set {s : SS} {c j : Nat} {x : Int32} (hc : c < 4) (hj : j < 7) : upd (vC s) (c * 7 + j) x = vC (upd s (64 + 7 * c + j) x) := by
  funext i; unfold vC upd
  by_cases e : i = c * 7 + j
  · subst e; rw [if_pos rfl, if_pos (by omega), if_pos (by omega)]
  · rw [if_neg e]
    dsimp only
    by_cases hi : i < 28
    · rw [if_pos hi, if_pos hi, if_neg (by omega)]
    · rw [if_neg hi, if_neg hi]
theorem vL_set {s : SS} {p j : Nat} {x : Int32} (hp : p < 24) (hj : j < 13) : upd (vL s) (p * 13 + j) x = vL (upd s (93 + 14 * p + j) x) := by
  funext i; unfold vL upd
  by_cases e : i = p * 13 + j
  · subst e; rw [if_pos rfl, if_pos (by omega), if_pos (by omega)]
  · rw [if_neg e]
    dsimp only
    by_cases hi : i < 312
    · rw [if_pos hi, if_pos hi, if_neg (by omega)]
    · rw [if_neg hi, if_neg hi]
theorem vQ_set {s : SS} {k : Nat} {x : Int32} (h : k < 24) : upd (vQ s) k x = vQ (upd s (429 + k) x) := by
  funext i; unfold vQ upd
  by_cases e : i = k
  · subst e; rw [if_pos rfl, if_pos h, if_pos rfl]
  · rw [if_neg e]
    dsimp only
    by_cases hi : i < 24
    · rw [if_pos hi, if_pos hi, if_neg (by omega)]
    · rw [if_neg hi, if_neg hi]
theorem up_ne {s : SS} {k j : Nat} {x : Int32} (h : j ≠ k) : upd s k x j = s j := pk_un h
theorem up_eq {s : SS} {k : Nat} {x : Int32} : upd s k x k = x := pk_us
/-- a byte, a channel's number, a letter's number, a place of the queue, the three fields are set -/
theorem EW_M {D : DX} {E : Nat → Nat} {s : SS} {k : Nat} {x : Int32} (h : k < 64) : (EW D E s).set 1 (E 1, .inl (dI D, 64, .inl (upd (vM s) k x))) = EW D E (upd s k x) := by
  show [_, _, _, _, _] = _
  rw [vM_set h]
  simp only [EW, vC_up (s := s) (x := x) (Or.inl h), vL_up (s := s) (x := x) (Or.inl (by omega : k < 93)), vQ_up (s := s) (x := x) (Or.inl (by omega : k < 429)), up_ne (s := s) (x := x) (by omega : 428 ≠ k), up_ne (s := s) (x := x) (by omega : 453 ≠ k), up_ne (s := s) (x := x) (by omega : 454 ≠ k)]
theorem EW_C {D : DX} {E : Nat → Nat} {s : SS} {c j : Nat} {x : Int32} (hc : c < 4) (hj : j < 7) : (EW D E s).set 2 (E 2, .inl (dI D, 28, .inl (upd (vC s) (c * 7 + j) x))) = EW D E (upd s (64 + 7 * c + j) x) := by
  show [_, _, _, _, _] = _
  rw [vC_set hc hj]
  simp only [EW, vM_up (s := s) (x := x) (by omega : 64 ≤ 64 + 7 * c + j), vL_up (s := s) (x := x) (Or.inl (by omega : 64 + 7 * c + j < 93)), vQ_up (s := s) (x := x) (Or.inl (by omega : 64 + 7 * c + j < 429)), up_ne (s := s) (x := x) (by omega : 428 ≠ 64 + 7 * c + j), up_ne (s := s) (x := x) (by omega : 453 ≠ 64 + 7 * c + j), up_ne (s := s) (x := x) (by omega : 454 ≠ 64 + 7 * c + j)]
theorem EW_L {D : DX} {E : Nat → Nat} {s : SS} {p j : Nat} {x : Int32} (hp : p < 24) (hj : j < 13) : (EW D E s).set 3 (E 3, .inl (dI D, 312, .inl (upd (vL s) (p * 13 + j) x))) = EW D E (upd s (93 + 14 * p + j) x) := by
  show [_, _, _, _, _] = _
  rw [vL_set hp hj]
  simp only [EW, vM_up (s := s) (x := x) (by omega : 64 ≤ 93 + 14 * p + j), vC_up (s := s) (x := x) (Or.inr (by omega : 92 ≤ 93 + 14 * p + j)), vQ_up (s := s) (x := x) (Or.inl (by omega : 93 + 14 * p + j < 429)), up_ne (s := s) (x := x) (by omega : 428 ≠ 93 + 14 * p + j), up_ne (s := s) (x := x) (by omega : 453 ≠ 93 + 14 * p + j), up_ne (s := s) (x := x) (by omega : 454 ≠ 93 + 14 * p + j)]
theorem EW_Q {D : DX} {E : Nat → Nat} {s : SS} {k : Nat} {x : Int32} (h : k < 24) : (EW D E s).set 4 (E 4, .inl (dI D, 24, .inl (upd (vQ s) k x))) = EW D E (upd s (429 + k) x) := by
  show [_, _, _, _, _] = _
  rw [vQ_set h]
  simp only [EW, vM_up (s := s) (x := x) (by omega : 64 ≤ 429 + k), vC_up (s := s) (x := x) (Or.inr (by omega : 92 ≤ 429 + k)), vL_up (s := s) (x := x) (Or.inr (by omega : 428 ≤ 429 + k)), up_ne (s := s) (x := x) (by omega : 428 ≠ 429 + k), up_ne (s := s) (x := x) (by omega : 453 ≠ 429 + k), up_ne (s := s) (x := x) (by omega : 454 ≠ 429 + k)]
theorem EW_q {D : DX} {E : Nat → Nat} {s : SS} {x : Int32} : (EW D E s).set 0 (E 0, .inr (0, [.ref (E 1), .ref (E 2), .ref (E 3), .ref (E 4), .int x, .int (s 453), .int (s 454)])) = EW D E (upd s 428 x) := by
  show [_, _, _, _, _] = _
  simp only [EW, vM_up (s := s) (x := x) (by omega : 64 ≤ 428), vC_up (s := s) (x := x) (Or.inr (by omega : 92 ≤ 428)), vL_up (s := s) (x := x) (Or.inr (by omega : 428 ≤ 428)), vQ_up (s := s) (x := x) (Or.inl (by omega : 428 < 429)), up_eq, up_ne (s := s) (x := x) (by omega : 453 ≠ 428), up_ne (s := s) (x := x) (by omega : 454 ≠ 428)]
theorem EW_l {D : DX} {E : Nat → Nat} {s : SS} {x : Int32} : (EW D E s).set 0 (E 0, .inr (0, [.ref (E 1), .ref (E 2), .ref (E 3), .ref (E 4), .int (s 428), .int x, .int (s 454)])) = EW D E (upd s 453 x) := by
  show [_, _, _, _, _] = _
  simp only [EW, vM_up (s := s) (x := x) (by omega : 64 ≤ 453), vC_up (s := s) (x := x) (Or.inr (by omega : 92 ≤ 453)), vL_up (s := s) (x := x) (Or.inr (by omega : 428 ≤ 453)), vQ_up (s := s) (x := x) (Or.inr (by omega : 453 ≤ 453)), up_eq, up_ne (s := s) (x := x) (by omega : 428 ≠ 453), up_ne (s := s) (x := x) (by omega : 454 ≠ 453)]
theorem EW_t {D : DX} {E : Nat → Nat} {s : SS} {x : Int32} : (EW D E s).set 0 (E 0, .inr (0, [.ref (E 1), .ref (E 2), .ref (E 3), .ref (E 4), .int (s 428), .int (s 453), .int x])) = EW D E (upd s 454 x) := by
  show [_, _, _, _, _] = _
  simp only [EW, vM_up (s := s) (x := x) (by omega : 64 ≤ 454), vC_up (s := s) (x := x) (Or.inr (by omega : 92 ≤ 454)), vL_up (s := s) (x := x) (Or.inr (by omega : 428 ≤ 454)), vQ_up (s := s) (x := x) (Or.inr (by omega : 453 ≤ 454)), up_eq, up_ne (s := s) (x := x) (by omega : 428 ≠ 454), up_ne (s := s) (x := x) (by omega : 453 ≠ 454)]
/-- a Java boolean -/
def bI (b : Bool) : Int32 := if b then 1 else 0
theorem bI_t : bI true = 1 := rfl
theorem bI_f : bI false = 0 := rfl
theorem nar_b (b : Bool) : narrow .boolean (.int (bI b)) = .int (bI b) := by cases b <;> rfl
end
section
/-! what the engine's small questions answer -/
theorem rv_t {b : Bool} (h : b = true) : some (Value.int (nI 1)) = some (Value.int (bI b)) := by rw [h]; rfl
theorem rv_f {b : Bool} (h : b = false) : some (Value.int (nI 0)) = some (Value.int (bI b)) := by rw [h]; rfl
section SP0
variable {D : DX} {y : MethodName} {b : ByteArray} {nL : Nat} {r : Option FieldType} {rm : Room}
/-- as ct_of, for a method of a class of the JDK that no entry of the machine's runs -/
theorem ct_ofF {av : List Value} {w : va_W} {fin : Option Value → va_W → Prop} {lv0 : List (Nat × Value)} (hy : plainFor y = true) (hlen : (lg_sl av).length ≤ nL) (hlv : lv_args 0 av = lv0) (h : ∀ Γ : GX, J D Γ y b nL r rm (Qf D Γ rm fin) 0 0 w 0 lv0 []) : Ct D y b nL r rm av w fin := by
  intro sz
  refine MetFree.of_bodySF (code := b) (maxLocals := nL) (ret := r) hy ?_ ?_
  · intro args s m h hn
    obtain ⟨meth, c, h1, h2, h3, h4, h5, h6, -, -⟩ := Cond.code_spec hn (atoms_spec (ws := .code y b nL r :: lw_g) h _ List.mem_cons_self)
    exact ⟨meth, c, h1, h2, h3, h4, h5, h6⟩
  · intro p e s m args below meth c s₁ B hml hv _
    obtain ⟨rfl, hsz, hP, hK, hD0, hZ, hX⟩ := hv
    subst hsz
    subst hlv
    have hD := hD0.self (sz := s.heap.size)
    have hts := atoms_spec (ws := .code y b nL r :: lw_g) B.pre
    have hl := lv_entry av (n := nL) hlen
    have hh0 : s₁.heap = s.heap := by rw [B.state]; rfl
    have K := h (p, e, s, m, av.toArray, below, meth, c, va_A w s.heap.size) ⟨B.exec, B.bytes, B.returns, hml, findClass_of_methodNamed B.named, fun w hw => hts w (List.mem_cons_of_mem _ hw), B.notSynchronized, hK, fun q hq => Or.inr hq, (name_of_methodNamed B.named B.method).1, hZ, hX⟩ s.heap [] _ hP hD va_S.rf hl
    rw [← lg_entry_eq] at K
    obtain ⟨t, a1, o, b1, b2, b3⟩ := K s₁ hh0 (Stand.of_body B)
    exact ⟨t, o, a1, b1, b2, ⟨b3.1, b3.2⟩⟩
end SP0
section SP1
variable {D : DX} {Γ : GX} {y : MethodName} {cc : ByteArray} {nL : Nat} {ret : Option FieldType} {R : Room} {Q : State → Prop} {k n : Nat} {w : va_W} {pc : Nat} {lv : List (Nat × Value)} {st : List Value}
theorem j_if_eq_B {b : Bool} {off : Int} {tgt : Nat} (hdg : decode cc pc = .ok (.ifCond .eq off, 3)) (ht : (pc : Int) + off = (tgt : Int)) (k1 : b = false → J D Γ y cc nL ret R Q k n w tgt lv st) (k2 : b = true → J D Γ y cc nL ret R Q k n w (pc + 3) lv st) : J D Γ y cc nL ret R Q k n w pc lv (.int (bI b) :: st) := j_if_eq hdg ht (fun q => k1 (by cases b; rfl; exact absurd q (by decide))) (fun q => k2 (by cases b; exact absurd rfl q; rfl))
theorem j_if_ne_B {b : Bool} {off : Int} {tgt : Nat} (hdg : decode cc pc = .ok (.ifCond .ne off, 3)) (ht : (pc : Int) + off = (tgt : Int)) (k1 : b = true → J D Γ y cc nL ret R Q k n w tgt lv st) (k2 : b = false → J D Γ y cc nL ret R Q k n w (pc + 3) lv st) : J D Γ y cc nL ret R Q k n w pc lv (.int (bI b) :: st) := j_if_ne hdg ht (fun q => k1 (by cases b; exact absurd rfl q; rfl)) (fun q => k2 (by cases b; rfl; exact absurd q (by decide)))
end SP1
theorem nI_m9 {j : Nat} (h : j < 2 ^ 31) : ¬ nI j = -9 := by
  intro q
  have e := congrArg Int32.toInt q
  rw [nI_toInt h] at e
  have z : (-9 : Int32).toInt = -9 := by decide
  omega
abbrev EX (D : DX) (E : Nat → Nat) (m c l q : SS) (a b z : Int32) : va_W := [(E 0, .inr (0, [.ref (E 1), .ref (E 2), .ref (E 3), .ref (E 4), .int a, .int b, .int z])), (E 1, .inl (dI D, 64, .inl m)), (E 2, .inl (dI D, 28, .inl c)), (E 3, .inl (dI D, 312, .inl l)), (E 4, .inl (dI D, 24, .inl q))]
theorem cpyM (s t : SS) : va_cpy (vM t) (vM s) 0 0 64 = vM t := by
  funext k; unfold va_cpy vM; by_cases h : k < 64
  · simp [h]
  · simp [h]
theorem cpyC (s t : SS) : va_cpy (vC t) (vC s) 0 0 28 = vC t := by
  funext k; unfold va_cpy vC; by_cases h : k < 28
  · simp [h]
  · simp [h]
theorem cpyL (s t : SS) : va_cpy (vL t) (vL s) 0 0 312 = vL t := by
  funext k; unfold va_cpy vL; by_cases h : k < 312
  · simp [h]
  · simp [h]
theorem cpyQ (s t : SS) : va_cpy (vQ t) (vQ s) 0 0 24 = vQ t := by
  funext k; unfold va_cpy vQ; by_cases h : k < 24
  · simp [h]
  · simp [h]
def eng (s : SS) (p : Nat) : Bool := decide (gL s p 9 = 1)
def tc (s : SS) (p : Nat) : Bool := decide (gL s p 9 = 1) && decide (gL s p 12 = 0)
def has (s : SS) (p : Nat) : Bool := decide (0 < gL s p 2)
def hd (s : SS) (c : Nat) : Nat := (gC s c 4).toNatClampNeg
def pl (s : SS) (c : Nat) : Nat := c * 6 + hd s c
def oN : Option Nat → Int32
  | none => -9
  | some c => nI c
/-- which place is carried from next -/
def prs (s : SS) (c : Nat) : Option Nat := if tc s (pl s c) then some (pl s c) else none
def nn (s : SS) (p : Nat) : Nat := (gL s p 2).toNatClampNeg
def rr (s : SS) (p : Nat) : Nat := (gL s p 5).toNatClampNeg
def am (x : Int32) : Nat := (x.toInt % 64).toNat
theorem am_lt (x : Int32) : am x < 64 := by unfold am; omega
def ad (s : SS) (p k way : Nat) : Nat := am (gL s p way + nI (k / nn s p) * gL s p (6 + way) + nI (k % nn s p) * gL s p (3 + way))
theorem ad_lt (s : SS) (p k way : Nat) : ad s p k way < 64 := am_lt _
theorem tc_t {s : SS} {p : Nat} (h1 : gL s p 9 = 1) (h2 : gL s p 12 = 0) : tc s p = true := by simp [tc, h1, h2]
theorem tc_f1 {s : SS} {p : Nat} (h1 : ¬ gL s p 9 = 1) : tc s p = false := by simp [tc, h1]
theorem tc_f2 {s : SS} {p : Nat} (h1 : ¬ gL s p 12 = 0) : tc s p = false := by simp [tc, h1]
theorem eng_t {s : SS} {p : Nat} (h : gL s p 9 = 1) : eng s p = true := decide_eq_true h
theorem eng_f {s : SS} {p : Nat} (h : ¬ gL s p 9 = 1) : eng s p = false := decide_eq_false h
theorem has_t {s : SS} {p : Nat} (h : ¬ gL s p 2 ≤ 0) : has s p = true := decide_eq_true (by
  rw [Int32.lt_iff_toInt_lt]
  rw [Int32.le_iff_toInt_le] at h
  omega)
theorem has_f {s : SS} {p : Nat} (h : gL s p 2 ≤ 0) : has s p = false := decide_eq_false (by
  rw [Int32.lt_iff_toInt_lt]
  rw [Int32.le_iff_toInt_le] at h
  omega)
end
section
section EN1
variable {D : DX}
set_option maxHeartbeats 4000000 in
set_option maxRecDepth 100000 in
theorem c_X0_placeOf (c j : Nat) : Ct D yX0_placeOf cX0_placeOf 2 (some .int) ({ frames := 0, cells := 0, slots := 0, locals := 0 } : Room) [.int (nI c), .int (nI j)] (([] : va_W)) (fun v_ u_ => v_ = some (.int (nI (c * 6 + j))) ∧ u_ = ([] : va_W)) := by
  refine ct_of (by decide) (Nat.le_of_ble_eq_true rfl) (lv0 := [(0, .int (nI c)), (1, .int (nI j))]) rfl (fun Γ => ?_)
  refine j_iload_n dX0_placeOf_0 0 rfl ?_
  refine j_bipush (v := nI 6) dX0_placeOf_1 (by decide) ?_
  refine j_imul (v := nI (c * 6)) dX0_placeOf_3 (pk_mul _ _) ?_
  refine j_iload_n dX0_placeOf_4 1 rfl ?_
  refine j_iadd (v := nI (c * 6 + j)) dX0_placeOf_5 (nI_add _ _) ?_
  exact j_iret dX0_placeOf_6 ⟨rfl, rfl⟩ ⟨rfl, rfl⟩

set_option maxHeartbeats 4000000 in
set_option maxRecDepth 100000 in
theorem c_X0_slotBehind (j : Nat) (hj : j < 6) : Ct D yX0_slotBehind cX0_slotBehind 1 (some .int) ({ frames := 0, cells := 0, slots := 0, locals := 0 } : Room) [.int (nI j)] (([] : va_W)) (fun v_ u_ => v_ = some (.int (nI ((j + 1) % 6))) ∧ u_ = ([] : va_W)) := by
  refine ct_of (by decide) (Nat.le_of_ble_eq_true rfl) (lv0 := [(0, .int (nI j))]) rfl (fun Γ => ?_)
  refine j_iload_n dX0_slotBehind_0 0 rfl ?_
  refine j_iconst (v := nI 5) dX0_slotBehind_1 (by decide) ?_
  refine j_icmp_lt_N (tgt := 9) dX0_slotBehind_2 (by decide) ⟨by omega, by omega⟩ (fun h2 => ?_) (fun h2 => ?_)
  · skip
    refine j_iload_n dX0_slotBehind_9 0 rfl ?_
    refine j_iconst (v := nI 1) dX0_slotBehind_10 (by decide) ?_
    refine j_iadd (v := nI (j + 1)) dX0_slotBehind_11 (nI_add _ _) ?_
    exact j_iret dX0_slotBehind_12 ⟨rfl, rfl⟩ ⟨congrArg (fun z => some (Value.int (nI z))) (by omega), rfl⟩
  · skip
    refine j_iconst (v := nI 0) dX0_slotBehind_5 (by decide) ?_
    refine j_goto (tgt := 12) dX0_slotBehind_6 (by decide) ?_
    exact j_iret dX0_slotBehind_12 ⟨rfl, rfl⟩ ⟨congrArg (fun z => some (Value.int (nI z))) (by omega), rfl⟩

set_option maxHeartbeats 4000000 in
set_option maxRecDepth 100000 in
theorem c_X0_ofChannel (E : Nat → Nat) (s : SS) (c j : Nat) (hc : c < 4) (hj : j < 7) : Ct D yX0_ofChannel cX0_ofChannel 3 (some .int) ({ frames := 0, cells := 0, slots := 0, locals := 0 } : Room) [.ref (E 0), .int (nI c), .int (nI j)] (EW D E s) (fun v_ u_ => v_ = some (.int (gC s c j)) ∧ u_ = EW D E s) := by
  refine ct_of (by decide) (Nat.le_of_ble_eq_true rfl) (lv0 := [(0, .ref (E 0)), (1, .int (nI c)), (2, .int (nI j))]) rfl (fun Γ => ?_)
  refine j_aload_n dX0_ofChannel_0 0 rfl ?_
  refine g_X0_15 rfl dX0_ofChannel_1 0 rfl rfl ?_
  refine j_iload_n dX0_ofChannel_4 1 rfl ?_
  refine j_bipush (v := nI 7) dX0_ofChannel_5 (by decide) ?_
  refine j_imul (v := nI (c * 7)) dX0_ofChannel_7 (pk_mul _ _) ?_
  refine j_iload_n dX0_ofChannel_8 2 rfl ?_
  refine j_iadd (v := nI (c * 7 + j)) dX0_ofChannel_9 (nI_add _ _) ?_
  refine j_iald (v := gC s c j) dX0_ofChannel_10 2 (c * 7 + j) rfl (rfl) (by omega) (Nat.le_of_ble_eq_true rfl) (vC_at hc hj) ?_
  exact j_iret dX0_ofChannel_11 ⟨rfl, rfl⟩ ⟨rfl, rfl⟩

set_option maxHeartbeats 4000000 in
set_option maxRecDepth 100000 in
theorem c_X0_setChannel (E : Nat → Nat) (s : SS) (c j : Nat) (x : Int32) (hc : c < 4) (hj : j < 7) : Ct D yX0_setChannel cX0_setChannel 4 none ({ frames := 0, cells := 0, slots := 0, locals := 0 } : Room) [.ref (E 0), .int (nI c), .int (nI j), .int x] (EW D E s) (fun v_ u_ => v_ = none ∧ u_ = EW D E (upd s (64 + 7 * c + j) x)) := by
  refine ct_of (by decide) (Nat.le_of_ble_eq_true rfl) (lv0 := [(0, .ref (E 0)), (1, .int (nI c)), (2, .int (nI j)), (3, .int x)]) rfl (fun Γ => ?_)
  refine j_aload_n dX0_setChannel_0 0 rfl ?_
  refine g_X0_15 rfl dX0_setChannel_1 0 rfl rfl ?_
  refine j_iload_n dX0_setChannel_4 1 rfl ?_
  refine j_bipush (v := nI 7) dX0_setChannel_5 (by decide) ?_
  refine j_imul (v := nI (c * 7)) dX0_setChannel_7 (pk_mul _ _) ?_
  refine j_iload_n dX0_setChannel_8 2 rfl ?_
  refine j_iadd (v := nI (c * 7 + j)) dX0_setChannel_9 (nI_add _ _) ?_
  refine j_iload_n dX0_setChannel_10 3 rfl ?_
  refine j_iast (w2 := EW D E (upd s (64 + 7 * c + j) x)) dX0_setChannel_11 2 (c * 7 + j) rfl (rfl) (by omega) (Nat.le_of_ble_eq_true rfl) (EW_C hc hj) ?_
  exact j_vret dX0_setChannel_12 ⟨rfl, rfl⟩ ⟨rfl, rfl⟩

set_option maxHeartbeats 4000000 in
set_option maxRecDepth 100000 in
theorem c_X0_addOneTo (E : Nat → Nat) (s : SS) (c j : Nat) (hc : c < 4) (hj : j < 7) : Ct D yX0_addOneTo cX0_addOneTo 3 none ({ frames := 0, cells := 0, slots := 0, locals := 0 } : Room) [.ref (E 0), .int (nI c), .int (nI j)] (EW D E s) (fun v_ u_ => v_ = none ∧ u_ = EW D E (upd s (64 + 7 * c + j) (gC s c j + 1))) := by
  refine ct_of (by decide) (Nat.le_of_ble_eq_true rfl) (lv0 := [(0, .ref (E 0)), (1, .int (nI c)), (2, .int (nI j))]) rfl (fun Γ => ?_)
  refine j_aload_n dX0_addOneTo_0 0 rfl ?_
  refine g_X0_15 rfl dX0_addOneTo_1 0 rfl rfl ?_
  refine j_iload_n dX0_addOneTo_4 1 rfl ?_
  refine j_bipush (v := nI 7) dX0_addOneTo_5 (by decide) ?_
  refine j_imul (v := nI (c * 7)) dX0_addOneTo_7 (pk_mul _ _) ?_
  refine j_iload_n dX0_addOneTo_8 2 rfl ?_
  refine j_iadd (v := nI (c * 7 + j)) dX0_addOneTo_9 (nI_add _ _) ?_
  refine j_dup2 dX0_addOneTo_10 rfl rfl ?_
  refine j_iald (v := gC s c j) dX0_addOneTo_11 2 (c * 7 + j) rfl (rfl) (by omega) (Nat.le_of_ble_eq_true rfl) (vC_at hc hj) ?_
  refine j_iconst (v := nI 1) dX0_addOneTo_12 (by decide) ?_
  refine j_iadd (v := gC s c j + 1) dX0_addOneTo_13 (rfl) ?_
  refine j_iast (w2 := EW D E (upd s (64 + 7 * c + j) (gC s c j + 1))) dX0_addOneTo_14 2 (c * 7 + j) rfl (rfl) (by omega) (Nat.le_of_ble_eq_true rfl) (EW_C hc hj) ?_
  exact j_vret dX0_addOneTo_15 ⟨rfl, rfl⟩ ⟨rfl, rfl⟩

set_option maxHeartbeats 4000000 in
set_option maxRecDepth 100000 in
theorem c_X0_ofLetter (E : Nat → Nat) (s : SS) (p j : Nat) (hp : p < 24) (hj : j < 13) : Ct D yX0_ofLetter cX0_ofLetter 3 (some .int) ({ frames := 0, cells := 0, slots := 0, locals := 0 } : Room) [.ref (E 0), .int (nI p), .int (nI j)] (EW D E s) (fun v_ u_ => v_ = some (.int (gL s p j)) ∧ u_ = EW D E s) := by
  refine ct_of (by decide) (Nat.le_of_ble_eq_true rfl) (lv0 := [(0, .ref (E 0)), (1, .int (nI p)), (2, .int (nI j))]) rfl (fun Γ => ?_)
  refine j_aload_n dX0_ofLetter_0 0 rfl ?_
  refine g_X0_18 rfl dX0_ofLetter_1 0 rfl rfl ?_
  refine j_iload_n dX0_ofLetter_4 1 rfl ?_
  refine j_bipush (v := nI 13) dX0_ofLetter_5 (by decide) ?_
  refine j_imul (v := nI (p * 13)) dX0_ofLetter_7 (pk_mul _ _) ?_
  refine j_iload_n dX0_ofLetter_8 2 rfl ?_
  refine j_iadd (v := nI (p * 13 + j)) dX0_ofLetter_9 (nI_add _ _) ?_
  refine j_iald (v := gL s p j) dX0_ofLetter_10 3 (p * 13 + j) rfl (rfl) (by omega) (Nat.le_of_ble_eq_true rfl) (vL_at hp hj) ?_
  exact j_iret dX0_ofLetter_11 ⟨rfl, rfl⟩ ⟨rfl, rfl⟩

set_option maxHeartbeats 4000000 in
set_option maxRecDepth 100000 in
theorem c_X0_setLetter (E : Nat → Nat) (s : SS) (p j : Nat) (x : Int32) (hp : p < 24) (hj : j < 13) : Ct D yX0_setLetter cX0_setLetter 4 none ({ frames := 0, cells := 0, slots := 0, locals := 0 } : Room) [.ref (E 0), .int (nI p), .int (nI j), .int x] (EW D E s) (fun v_ u_ => v_ = none ∧ u_ = EW D E (upd s (93 + 14 * p + j) x)) := by
  refine ct_of (by decide) (Nat.le_of_ble_eq_true rfl) (lv0 := [(0, .ref (E 0)), (1, .int (nI p)), (2, .int (nI j)), (3, .int x)]) rfl (fun Γ => ?_)
  refine j_aload_n dX0_setLetter_0 0 rfl ?_
  refine g_X0_18 rfl dX0_setLetter_1 0 rfl rfl ?_
  refine j_iload_n dX0_setLetter_4 1 rfl ?_
  refine j_bipush (v := nI 13) dX0_setLetter_5 (by decide) ?_
  refine j_imul (v := nI (p * 13)) dX0_setLetter_7 (pk_mul _ _) ?_
  refine j_iload_n dX0_setLetter_8 2 rfl ?_
  refine j_iadd (v := nI (p * 13 + j)) dX0_setLetter_9 (nI_add _ _) ?_
  refine j_iload_n dX0_setLetter_10 3 rfl ?_
  refine j_iast (w2 := EW D E (upd s (93 + 14 * p + j) x)) dX0_setLetter_11 3 (p * 13 + j) rfl (rfl) (by omega) (Nat.le_of_ble_eq_true rfl) (EW_L hp hj) ?_
  exact j_vret dX0_setLetter_12 ⟨rfl, rfl⟩ ⟨rfl, rfl⟩

set_option maxHeartbeats 4000000 in
set_option maxRecDepth 100000 in
theorem c_X0_hasLetter (E : Nat → Nat) (s : SS) (p : Nat) (hp : p < 24) : Ct D yX0_hasLetter cX0_hasLetter 2 (some .boolean) ({ frames := 1, cells := 0, slots := 0, locals := 22 } : Room) [.ref (E 0), .int (nI p)] (EW D E s) (fun v_ u_ => v_ = some (.int (bI (has s p))) ∧ u_ = EW D E s) := by
  refine ct_of (by decide) (Nat.le_of_ble_eq_true rfl) (lv0 := [(0, .ref (E 0)), (1, .int (nI p))]) rfl (fun Γ => ?_)
  refine j_aload_n dX0_hasLetter_0 0 rfl ?_
  refine j_iload_n dX0_hasLetter_1 1 rfl ?_
  refine j_iconst (v := nI 2) dX0_hasLetter_2 (by decide) ?_
  refine j_V (w2 := EW D E s) (st2 := [.int (gL s p 2)]) (c_X0_ofLetter E s p 2 (by omega) (by omega)) rfl cw_X0_40 dX0_hasLetter_3 [] rfl [0, 1, 2, 3, 4] rfl rfl rfl 0 ?_ ⟨rfl, ⟨Nat.le_of_ble_eq_true rfl, Nat.le_of_ble_eq_true rfl⟩, ⟨rfl, rfl⟩, ⟨Nat.le_of_ble_eq_true rfl, Nat.le_of_ble_eq_true rfl⟩, Nat.le_of_ble_eq_true rfl, rfl, rfl⟩ rfl rfl rfl
  refine j_if_le (tgt := 13) dX0_hasLetter_6 (by decide) (fun h6 => ?_) (fun h6 => ?_)
  · skip
    refine j_iconst (v := nI 0) dX0_hasLetter_13 (by decide) ?_
    exact j_zret dX0_hasLetter_14 (rfl) ⟨rfl, rfl⟩ ⟨rv_f (has_f h6), rfl⟩
  · skip
    refine j_iconst (v := nI 1) dX0_hasLetter_9 (by decide) ?_
    refine j_goto (tgt := 14) dX0_hasLetter_10 (by decide) ?_
    exact j_zret dX0_hasLetter_14 (rfl) ⟨rfl, rfl⟩ ⟨rv_t (has_t h6), rfl⟩

set_option maxHeartbeats 4000000 in
set_option maxRecDepth 100000 in
theorem c_X0_isEngines (E : Nat → Nat) (s : SS) (p : Nat) (hp : p < 24) : Ct D yX0_isEngines cX0_isEngines 2 (some .boolean) ({ frames := 1, cells := 0, slots := 0, locals := 22 } : Room) [.ref (E 0), .int (nI p)] (EW D E s) (fun v_ u_ => v_ = some (.int (bI (eng s p))) ∧ u_ = EW D E s) := by
  refine ct_of (by decide) (Nat.le_of_ble_eq_true rfl) (lv0 := [(0, .ref (E 0)), (1, .int (nI p))]) rfl (fun Γ => ?_)
  refine j_aload_n dX0_isEngines_0 0 rfl ?_
  refine j_iload_n dX0_isEngines_1 1 rfl ?_
  refine j_bipush (v := nI 9) dX0_isEngines_2 (by decide) ?_
  refine j_V (w2 := EW D E s) (st2 := [.int (gL s p 9)]) (c_X0_ofLetter E s p 9 (by omega) (by omega)) rfl cw_X0_40 dX0_isEngines_4 [] rfl [0, 1, 2, 3, 4] rfl rfl rfl 0 ?_ ⟨rfl, ⟨Nat.le_of_ble_eq_true rfl, Nat.le_of_ble_eq_true rfl⟩, ⟨rfl, rfl⟩, ⟨Nat.le_of_ble_eq_true rfl, Nat.le_of_ble_eq_true rfl⟩, Nat.le_of_ble_eq_true rfl, rfl, rfl⟩ rfl rfl rfl
  refine j_iconst (v := nI 1) dX0_isEngines_7 (by decide) ?_
  refine j_icmp_ne (tgt := 15) dX0_isEngines_8 (by decide) (fun h8 => ?_) (fun h8 => ?_)
  · skip
    refine j_iconst (v := nI 0) dX0_isEngines_15 (by decide) ?_
    exact j_zret dX0_isEngines_16 (rfl) ⟨rfl, rfl⟩ ⟨rv_f (eng_f h8), rfl⟩
  · skip
    refine j_iconst (v := nI 1) dX0_isEngines_11 (by decide) ?_
    refine j_goto (tgt := 16) dX0_isEngines_12 (by decide) ?_
    exact j_zret dX0_isEngines_16 (rfl) ⟨rfl, rfl⟩ ⟨rv_t (eng_t h8), rfl⟩

set_option maxHeartbeats 4000000 in
set_option maxRecDepth 100000 in
theorem c_X0_isToCarry (E : Nat → Nat) (s : SS) (p : Nat) (hp : p < 24) : Ct D yX0_isToCarry cX0_isToCarry 3 (some .boolean) ({ frames := 0, cells := 0, slots := 0, locals := 0 } : Room) [.ref (E 0), .int (nI p)] (EW D E s) (fun v_ u_ => v_ = some (.int (bI (tc s p))) ∧ u_ = EW D E s) := by
  refine ct_of (by decide) (Nat.le_of_ble_eq_true rfl) (lv0 := [(0, .ref (E 0)), (1, .int (nI p))]) rfl (fun Γ => ?_)
  refine j_iload_n dX0_isToCarry_0 1 rfl ?_
  refine j_bipush (v := nI 13) dX0_isToCarry_1 (by decide) ?_
  refine j_imul (v := nI (p * 13)) dX0_isToCarry_3 (pk_mul _ _) ?_
  refine j_istore_n (lv2 := [(0, .ref (E 0)), (1, .int (nI p)), (2, .int (nI (p * 13)))]) dX0_isToCarry_4 (by decide) [1, 2, 0] rfl ?_
  refine j_aload_n dX0_isToCarry_5 0 rfl ?_
  refine g_X0_18 rfl dX0_isToCarry_6 0 rfl rfl ?_
  refine j_iload_n dX0_isToCarry_9 2 rfl ?_
  refine j_bipush (v := nI 9) dX0_isToCarry_10 (by decide) ?_
  refine j_iadd (v := nI (p * 13 + 9)) dX0_isToCarry_12 (nI_add _ _) ?_
  refine j_iald (v := gL s p 9) dX0_isToCarry_13 3 (p * 13 + 9) rfl (rfl) (by omega) (Nat.le_of_ble_eq_true rfl) (vL_at hp (by decide)) ?_
  refine j_iconst (v := nI 1) dX0_isToCarry_14 (by decide) ?_
  refine j_icmp_ne (tgt := 34) dX0_isToCarry_15 (by decide) (fun h15 => ?_) (fun h15 => ?_)
  · skip
    refine j_iconst (v := nI 0) dX0_isToCarry_34 (by decide) ?_
    exact j_zret dX0_isToCarry_35 (rfl) ⟨rfl, rfl⟩ ⟨rv_f (tc_f1 h15), rfl⟩
  · skip
    refine j_aload_n dX0_isToCarry_18 0 rfl ?_
    refine g_X0_18 rfl dX0_isToCarry_19 0 rfl rfl ?_
    refine j_iload_n dX0_isToCarry_22 2 rfl ?_
    refine j_bipush (v := nI 12) dX0_isToCarry_23 (by decide) ?_
    refine j_iadd (v := nI (p * 13 + 12)) dX0_isToCarry_25 (nI_add _ _) ?_
    refine j_iald (v := gL s p 12) dX0_isToCarry_26 3 (p * 13 + 12) rfl (rfl) (by omega) (Nat.le_of_ble_eq_true rfl) (vL_at hp (by decide)) ?_
    refine j_if_ne (tgt := 34) dX0_isToCarry_27 (by decide) (fun h27 => ?_) (fun h27 => ?_)
    · skip
      refine j_iconst (v := nI 0) dX0_isToCarry_34 (by decide) ?_
      exact j_zret dX0_isToCarry_35 (rfl) ⟨rfl, rfl⟩ ⟨rv_f (tc_f2 h27), rfl⟩
    · skip
      refine j_iconst (v := nI 1) dX0_isToCarry_30 (by decide) ?_
      refine j_goto (tgt := 35) dX0_isToCarry_31 (by decide) ?_
      exact j_zret dX0_isToCarry_35 (rfl) ⟨rfl, rfl⟩ ⟨rv_t (tc_t h15 h27), rfl⟩

set_option maxHeartbeats 4000000 in
set_option maxRecDepth 100000 in
theorem c_X0_unitsOf (E : Nat → Nat) (s : SS) (p : Nat) (hp : p < 24) : Ct D yX0_unitsOf cX0_unitsOf 2 (some .int) ({ frames := 1, cells := 0, slots := 0, locals := 22 } : Room) [.ref (E 0), .int (nI p)] (EW D E s) (fun v_ u_ => v_ = some (.int (gL s p 2 * gL s p 5)) ∧ u_ = EW D E s) := by
  refine ct_of (by decide) (Nat.le_of_ble_eq_true rfl) (lv0 := [(0, .ref (E 0)), (1, .int (nI p))]) rfl (fun Γ => ?_)
  refine j_aload_n dX0_unitsOf_0 0 rfl ?_
  refine j_iload_n dX0_unitsOf_1 1 rfl ?_
  refine j_iconst (v := nI 2) dX0_unitsOf_2 (by decide) ?_
  refine j_V (w2 := EW D E s) (st2 := [.int (gL s p 2)]) (c_X0_ofLetter E s p 2 (by omega) (by omega)) rfl cw_X0_40 dX0_unitsOf_3 [] rfl [0, 1, 2, 3, 4] rfl rfl rfl 0 ?_ ⟨rfl, ⟨Nat.le_of_ble_eq_true rfl, Nat.le_of_ble_eq_true rfl⟩, ⟨rfl, rfl⟩, ⟨Nat.le_of_ble_eq_true rfl, Nat.le_of_ble_eq_true rfl⟩, Nat.le_of_ble_eq_true rfl, rfl, rfl⟩ rfl rfl rfl
  refine j_aload_n dX0_unitsOf_6 0 rfl ?_
  refine j_iload_n dX0_unitsOf_7 1 rfl ?_
  refine j_iconst (v := nI 5) dX0_unitsOf_8 (by decide) ?_
  refine j_V (w2 := EW D E s) (st2 := [.int (gL s p 5), .int (gL s p 2)]) (c_X0_ofLetter E s p 5 (by omega) (by omega)) rfl cw_X0_40 dX0_unitsOf_9 [.int (gL s p 2)] rfl [0, 1, 2, 3, 4] rfl rfl rfl 0 ?_ ⟨rfl, ⟨Nat.le_of_ble_eq_true rfl, Nat.le_of_ble_eq_true rfl⟩, ⟨rfl, rfl⟩, ⟨Nat.le_of_ble_eq_true rfl, Nat.le_of_ble_eq_true rfl⟩, Nat.le_of_ble_eq_true rfl, rfl, rfl⟩ rfl rfl rfl
  refine j_imul (v := (gL s p 2) * (gL s p 5)) dX0_unitsOf_12 (rfl) ?_
  exact j_iret dX0_unitsOf_13 ⟨rfl, rfl⟩ ⟨rfl, rfl⟩

end EN1
end
section
/-! what holds of every state, and what a tick does -/
def re (s : SS) (p : Nat) : Nat := (gL s p 11).toNatClampNeg
def un (s : SS) (p : Nat) : Nat := nn s p * rr s p
def lst (s : SS) : Nat := (s 453).toNatClampNeg
def bu (s : SS) (c : Nat) : Nat := (gC s c 2).toNatClampNeg
def po (s : SS) (c : Nat) : Nat := (gC s c 3).toNatClampNeg
def qu (s : SS) : Nat := (s 429).toNatClampNeg
def nat? (x : Int32) (lo hi : Nat) : Prop := ∃ j : Nat, lo ≤ j ∧ j < hi ∧ x = nI j
def ChOk (s : SS) (c : Nat) : Prop := (gC s c 0 = 0 ∨ gC s c 0 = 1) ∧ nat? (gC s c 1) 0 4 ∧ nat? (gC s c 2) 1 9 ∧ nat? (gC s c 3) 0 6 ∧ nat? (gC s c 4) 0 6
def LeOk (s : SS) (p : Nat) : Prop := (s (92 + 14 * p) = 0 ∧ gL s p 2 = 0 ∧ gL s p 9 = 0) ∨ (s (92 + 14 * p) = 1 ∧ nat? (gL s p 2) 1 17 ∧ nat? (gL s p 5) 1 5 ∧ nat? (gL s p 11) 0 (un s p + 1))
def Inv (s : SS) : Prop := (∀ c, c < 4 → ChOk s c) ∧ (∀ p, p < 24 → LeOk s p) ∧ (s 428 = 0 ∨ (s 428 = 1 ∧ nat? (s 429) 0 24)) ∧ nat? (s 453) 0 4
theorem nat?.to {x : Int32} {lo hi : Nat} (h : nat? x lo hi) (hh : hi ≤ 2 ^ 31) : x = nI x.toNatClampNeg ∧ lo ≤ x.toNatClampNeg ∧ x.toNatClampNeg < hi := by
  obtain ⟨j, h1, h2, rfl⟩ := h
  rw [nI_clamp (by omega)]
  exact ⟨rfl, h1, h2⟩
theorem Inv.hd_ {s : SS} (h : Inv s) {c : Nat} (hc : c < 4) : gC s c 4 = nI (hd s c) ∧ hd s c < 6 := by
  have := (h.1 c hc).2.2.2.2.to (by decide)
  exact ⟨this.1, this.2.2⟩
theorem Inv.po_ {s : SS} (h : Inv s) {c : Nat} (hc : c < 4) : gC s c 3 = nI (po s c) ∧ po s c < 6 := by
  have := (h.1 c hc).2.2.2.1.to (by decide)
  exact ⟨this.1, this.2.2⟩
theorem Inv.bu_ {s : SS} (h : Inv s) {c : Nat} (hc : c < 4) : gC s c 2 = nI (bu s c) ∧ 1 ≤ bu s c ∧ bu s c < 9 := (h.1 c hc).2.2.1.to (by decide)
theorem Inv.lst_ {s : SS} (h : Inv s) : s 453 = nI (lst s) ∧ lst s < 4 := by
  have := h.2.2.2.to (by decide)
  exact ⟨this.1, this.2.2⟩
theorem Inv.pl_ {s : SS} (h : Inv s) {c : Nat} (hc : c < 4) : pl s c < 24 := by
  have := (h.hd_ hc).2
  unfold pl; omega
theorem Inv.q4 {s : SS} (h : Inv s) : s 428 < nI 4 := by
  rcases h.2.2.1 with q | q
  · rw [q]; decide
  · rw [q.1]; decide
/-- a letter that is there -/
theorem Inv.le {s : SS} (h : Inv s) {p : Nat} (hp : p < 24) (hh : s (92 + 14 * p) ≠ 0) : s (92 + 14 * p) = 1 ∧ (gL s p 2 = nI (nn s p) ∧ 1 ≤ nn s p ∧ nn s p < 17) ∧ (gL s p 5 = nI (rr s p) ∧ 1 ≤ rr s p ∧ rr s p < 5) ∧ gL s p 11 = nI (re s p) ∧ re s p ≤ un s p := by
  rcases h.2.1 p hp with q | q
  · exact absurd q.1 hh
  · have h1 := q.2.1.to (by decide)
    have h2 := q.2.2.1.to (by decide)
    have hu : un s p < 100 := by
      have a := h1.2.2; have b := h2.2.2
      show nn s p * rr s p < 100
      have : nn s p * rr s p ≤ 16 * 4 := Nat.mul_le_mul (by unfold nn; omega) (by unfold rr; omega)
      omega
    have h3 := q.2.2.2.to (by omega)
    exact ⟨q.1, h1, h2, h3.1, by have := h3.2.2; unfold re; omega⟩
theorem un_lt {s : SS} {p : Nat} (h1 : nn s p < 17) (h2 : rr s p < 5) : un s p ≤ 64 := by
  have : nn s p * rr s p ≤ 16 * 4 := Nat.mul_le_mul (by omega) (by omega)
  unfold un; omega
theorem Inv.hs {s : SS} (h : Inv s) {p : Nat} (hp : p < 24) : has s p = true ↔ s (92 + 14 * p) ≠ 0 := by
  rcases h.2.1 p hp with q | q
  · simp [has, q.1, q.2.1]
  · have h1 := q.2.1.to (by decide)
    constructor
    · intro _; rw [q.1]; decide
    · intro _
      unfold has
      rw [h1.1]
      exact decide_eq_true (nI_lt (a := 0) (by omega) (by omega))
theorem Inv.tc_ {s : SS} (h : Inv s) {p : Nat} (hp : p < 24) (ht : tc s p = true) : s (92 + 14 * p) ≠ 0 := by
  rcases h.2.1 p hp with q | q
  · simp [tc, q.2.2] at ht
  · rw [q.1]; decide
theorem Inv.eng_ {s : SS} (h : Inv s) {p : Nat} (hp : p < 24) (ht : eng s p = true) : s (92 + 14 * p) ≠ 0 := by
  rcases h.2.1 p hp with q | q
  · simp [eng, q.2.2] at ht
  · rw [q.1]; decide
theorem prs_none {s : SS} {c : Nat} (h : prs s c = none) : tc s (pl s c) = false := by
  unfold prs at h
  split at h
  · cases h
  · rename_i q; simpa using q
theorem prs_some {s : SS} {c p : Nat} (h : prs s c = some p) : p = pl s c ∧ tc s (pl s c) = true := by
  unfold prs at h
  split at h
  · rename_i q; cases h; exact ⟨rfl, q⟩
  · cases h
theorem prs_f {s : SS} {c : Nat} (h : tc s (pl s c) = false) : prs s c = none := by simp [prs, h]
theorem prs_t {s : SS} {c : Nat} (h : tc s (pl s c) = true) : prs s c = some (pl s c) := by simp [prs, h]
def rdy (s : SS) (c : Nat) : Bool := tc s (pl s c) && decide (gC s c 0 = 1)
theorem rdy_f1 {s : SS} {c : Nat} (h : tc s (pl s c) = false) : rdy s c = false := by simp [rdy, h]
theorem rdy_f2 {s : SS} {c : Nat} (h : gC s c 0 = 0) : rdy s c = false := by simp [rdy, h]
theorem rdy_t {s : SS} {c : Nat} (h : tc s (pl s c) = true) (hi : Inv s) (hc : c < 4) (h2 : ¬ gC s c 0 = 0) : rdy s c = true := by
  have := (hi.1 c hc).1.resolve_left h2
  simp [rdy, h, this]
def wok (s : SS) (b : Option Nat) (c : Nat) : Bool := rdy s c && (match b with | none => true | some d => decide (gC s d 1 < gC s c 1))
def wst (s : SS) (b : Option Nat) (c : Nat) : Option Nat := if wok s b c then some c else b
def whoN (s : SS) : Nat → Option Nat
  | 0 => none
  | i + 1 => wst s (whoN s i) ((lst s + (i + 1)) % 4)
def who (s : SS) : Option Nat := whoN s 4
theorem wst_lt {s : SS} {b : Option Nat} {c : Nat} (hc : c < 4) (hb : ∀ d, b = some d → d < 4) : ∀ d, wst s b c = some d → d < 4 := by
  intro d h
  unfold wst at h
  split at h
  · cases h; exact hc
  · exact hb d h
theorem whoN_lt (s : SS) : ∀ i d, whoN s i = some d → d < 4
  | 0, d, h => by cases h
  | i + 1, d, h => wst_lt (Nat.mod_lt _ (by decide)) (whoN_lt s i) d h
theorem wst_rdy {s : SS} {b : Option Nat} {c : Nat} (hb : ∀ d, b = some d → rdy s d = true) : ∀ d, wst s b c = some d → rdy s d = true := by
  intro d h
  unfold wst at h
  split at h
  · rename_i q; cases h; unfold wok at q; simp only [Bool.and_eq_true] at q; exact q.1
  · exact hb d h
theorem whoN_rdy (s : SS) : ∀ i d, whoN s i = some d → rdy s d = true
  | 0, d, h => by cases h
  | i + 1, d, h => wst_rdy (whoN_rdy s i) d h
theorem wst_n {s : SS} {b : Option Nat} {c : Nat} (h : rdy s c = false) : wst s b c = b := by simp [wst, wok, h]
theorem wst_0 {s : SS} {c : Nat} (h : rdy s c = true) : wst s none c = some c := by simp [wst, wok, h]
theorem wst_y {s : SS} {c d : Nat} (h : rdy s c = true) (h2 : gC s d 1 < gC s c 1) : wst s (some d) c = some c := by simp only [wst, wok, h, Bool.true_and]; rw [if_pos (decide_eq_true h2)]
theorem wst_no {s : SS} {c d : Nat} (h2 : ¬ gC s d 1 < gC s c 1) : wst s (some d) c = some d := by
  unfold wst wok
  rw [if_neg]
  simp only [Bool.and_eq_true, not_and]
  intro _
  simpa using h2
/-- how many of the first n -/
def cnt (f : Nat → Bool) : Nat → Nat
  | 0 => 0
  | i + 1 => cnt f i + (if f i then 1 else 0)
theorem cnt_le (f : Nat → Bool) : ∀ n, cnt f n ≤ n
  | 0 => Nat.le_refl _
  | i + 1 => by have := cnt_le f i; unfold cnt; split <;> omega
theorem cnt_f {f : Nat → Bool} {j : Nat} (h : f j = false) : cnt f (j + 1) = cnt f j := by simp [cnt, h]
theorem cnt_t {f : Nat → Bool} {j : Nat} (h : f j = true) : cnt f (j + 1) = cnt f j + 1 := by simp [cnt, h]
def elo (s : SS) (c : Nat) : Nat := cnt (fun j => eng s (c * 6 + j)) 6
def els (s : SS) : Nat → Nat
  | 0 => 0
  | i + 1 => els s i + elo s i
theorem els_le (s : SS) : ∀ n, els s n ≤ 6 * n
  | 0 => Nat.le_refl _
  | i + 1 => by have := els_le s i; have := cnt_le (fun j => eng s (i * 6 + j)) 6; unfold els elo; omega
/-! floorMod -/
theorem xor64 (x : Int32) : (x ^^^ nI 64) < 0 ↔ x < 0 := by
  have h : (x.toBitVec ^^^ (64#32)).msb = (x.toBitVec.msb ^^ (64#32).msb) := BitVec.msb_xor
  have h3 : (64#32 : BitVec 32).msb = false := by decide
  rw [h3, Bool.xor_false, BitVec.msb_eq_toInt, BitVec.msb_eq_toInt] at h
  rw [Int32.lt_iff_toInt_lt, Int32.lt_iff_toInt_lt]
  exact decide_eq_decide.mp h
theorem am_nI (x : Int32) : (nI (am x)).toInt = x.toInt % 64 := by
  rw [nI_toInt (by have := am_lt x; omega)]
  unfold am; omega
theorem t64 : (nI 64).toInt = 64 := by decide
theorem fm_p {x : Int32} (h : ¬ x < 0) : x - x / nI 64 * nI 64 = nI (am x) := by
  apply Int32.toInt_inj.mp
  rw [rem_toInt, am_nI, t64]
  rw [Int32.lt_iff_toInt_lt] at h
  exact Int.tmod_eq_emod_of_nonneg (by have z : (0 : Int32).toInt = 0 := rfl; omega)
theorem fm_z {x : Int32} (h : x - x / nI 64 * nI 64 = 0) : x - x / nI 64 * nI 64 = nI (am x) := by
  apply Int32.toInt_inj.mp
  have e := congrArg Int32.toInt h
  rw [rem_toInt, t64] at e
  rw [rem_toInt, am_nI, t64, e]
  have z : (0 : Int32).toInt = 0 := rfl
  rw [z] at e ⊢
  have := Int.dvd_of_tmod_eq_zero e
  omega
theorem fm_n {x : Int32} (h : x < 0) (h2 : ¬ x - x / nI 64 * nI 64 = 0) : x - x / nI 64 * nI 64 + nI 64 = nI (am x) := by
  have z : (0 : Int32).toInt = 0 := rfl
  have hb := tmod_bounds (a := x.toInt) (M := 64) (by decide)
  have hx : x.toInt < 0 := by rw [Int32.lt_iff_toInt_lt] at h; omega
  have e0 : ¬ x.toInt.tmod 64 = 0 := by
    intro q
    apply h2
    apply Int32.toInt_inj.mp
    rw [rem_toInt, t64, z]; exact q
  have e1 : x.toInt.tmod 64 = -((-x.toInt) % 64) := by
    have := Int.neg_tmod (a := -x.toInt) (b := 64)
    rw [Int.neg_neg] at this
    rw [this, Int.tmod_eq_emod_of_nonneg (by omega)]
  apply Int32.toInt_inj.mp
  rw [am_nI, Jvm.Kit.i32_add (by rw [rem_toInt, t64]; omega) (by rw [rem_toInt, t64]; omega), rem_toInt, t64]
  omega
end
section
section EN2
variable {D : DX}
set_option maxHeartbeats 4000000 in
set_option maxRecDepth 100000 in
theorem c_J9_floorMod_7cf53 (x : Int32) : Ct D yJ9_floorMod_7cf53 cJ9_floorMod_7cf53 3 (some .int) ({ frames := 0, cells := 0, slots := 0, locals := 0 } : Room) [.int x, .int (nI 64)] (([] : va_W)) (fun v_ u_ => v_ = some (.int (nI (am x))) ∧ u_ = ([] : va_W)) := by
  refine ct_ofF (by decide +kernel) (Nat.le_of_ble_eq_true rfl) (lv0 := [(0, .int x), (1, .int (nI 64))]) rfl (fun Γ => ?_)
  refine j_iload_n dJ9_floorMod_7cf53_0 0 rfl ?_
  refine j_iload_n dJ9_floorMod_7cf53_1 1 rfl ?_
  refine j_irem (v := x - x / (nI 64) * (nI 64)) dJ9_floorMod_7cf53_2 (by decide) (rfl) ?_
  refine j_istore_n (lv2 := [(0, .int x), (1, .int (nI 64)), (2, .int (x - x / (nI 64) * (nI 64)))]) dJ9_floorMod_7cf53_3 (by decide) [1, 2, 0] rfl ?_
  refine j_iload_n dJ9_floorMod_7cf53_4 0 rfl ?_
  refine j_iload_n dJ9_floorMod_7cf53_5 1 rfl ?_
  refine j_ixor (v := x ^^^ (nI 64)) dJ9_floorMod_7cf53_6 (rfl) ?_
  refine j_if_ge (tgt := 18) dJ9_floorMod_7cf53_7 (by decide) (fun h7 => ?_) (fun h7 => ?_)
  · skip
    refine j_iload_n dJ9_floorMod_7cf53_18 2 rfl ?_
    exact j_iret dJ9_floorMod_7cf53_19 ⟨rfl, rfl⟩ ⟨by rw [fm_p (fun q => absurd h7 (Int32.not_le.mpr ((xor64 x).mpr q)))], rfl⟩
  · skip
    refine j_iload_n dJ9_floorMod_7cf53_10 2 rfl ?_
    refine j_if_eq (tgt := 18) dJ9_floorMod_7cf53_11 (by decide) (fun h11 => ?_) (fun h11 => ?_)
    · skip
      refine j_iload_n dJ9_floorMod_7cf53_18 2 rfl ?_
      exact j_iret dJ9_floorMod_7cf53_19 ⟨rfl, rfl⟩ ⟨by rw [fm_z h11], rfl⟩
    · skip
      refine j_iload_n dJ9_floorMod_7cf53_14 2 rfl ?_
      refine j_iload_n dJ9_floorMod_7cf53_15 1 rfl ?_
      refine j_iadd (v := (x - x / (nI 64) * (nI 64)) + (nI 64)) dJ9_floorMod_7cf53_16 (rfl) ?_
      exact j_iret dJ9_floorMod_7cf53_17 ⟨rfl, rfl⟩ ⟨by rw [fm_n ((xor64 x).mp (Int32.not_le.mp h7)) h11], rfl⟩

set_option maxHeartbeats 4000000 in
set_option maxRecDepth 100000 in
theorem c_J9_min_7cf53 (a b : Nat) (ha : a < 2 ^ 31) (hb : b < 2 ^ 31) : Ct D yJ9_min_7cf53 cJ9_min_7cf53 2 (some .int) ({ frames := 0, cells := 0, slots := 0, locals := 0 } : Room) [.int (nI a), .int (nI b)] (([] : va_W)) (fun v_ u_ => v_ = some (.int (nI (min a b))) ∧ u_ = ([] : va_W)) := by
  refine ct_ofF (by decide +kernel) (Nat.le_of_ble_eq_true rfl) (lv0 := [(0, .int (nI a)), (1, .int (nI b))]) rfl (fun Γ => ?_)
  refine j_iload_n dJ9_min_7cf53_0 0 rfl ?_
  refine j_iload_n dJ9_min_7cf53_1 1 rfl ?_
  refine j_icmp_gt_N (tgt := 9) dJ9_min_7cf53_2 (by decide) ⟨by omega, by omega⟩ (fun h2 => ?_) (fun h2 => ?_)
  · skip
    refine j_iload_n dJ9_min_7cf53_9 1 rfl ?_
    exact j_iret dJ9_min_7cf53_10 ⟨rfl, rfl⟩ ⟨congrArg (fun z => some (Value.int (nI z))) (by rw [Nat.min_def]; split <;> omega), rfl⟩
  · skip
    refine j_iload_n dJ9_min_7cf53_5 0 rfl ?_
    refine j_goto (tgt := 10) dJ9_min_7cf53_6 (by decide) ?_
    exact j_iret dJ9_min_7cf53_10 ⟨rfl, rfl⟩ ⟨congrArg (fun z => some (Value.int (nI z))) (by rw [Nat.min_def]; split <;> omega), rfl⟩

set_option maxHeartbeats 4000000 in
set_option maxRecDepth 100000 in
theorem c_J9_max_7cf53 (a b : Nat) (ha : a < 2 ^ 31) (hb : b < 2 ^ 31) : Ct D yJ9_max_7cf53 cJ9_max_7cf53 2 (some .int) ({ frames := 0, cells := 0, slots := 0, locals := 0 } : Room) [.int (nI a), .int (nI b)] (([] : va_W)) (fun v_ u_ => v_ = some (.int (nI (max a b))) ∧ u_ = ([] : va_W)) := by
  refine ct_ofF (by decide +kernel) (Nat.le_of_ble_eq_true rfl) (lv0 := [(0, .int (nI a)), (1, .int (nI b))]) rfl (fun Γ => ?_)
  refine j_iload_n dJ9_max_7cf53_0 0 rfl ?_
  refine j_iload_n dJ9_max_7cf53_1 1 rfl ?_
  refine j_icmp_lt_N (tgt := 9) dJ9_max_7cf53_2 (by decide) ⟨by omega, by omega⟩ (fun h2 => ?_) (fun h2 => ?_)
  · skip
    refine j_iload_n dJ9_max_7cf53_9 1 rfl ?_
    exact j_iret dJ9_max_7cf53_10 ⟨rfl, rfl⟩ ⟨congrArg (fun z => some (Value.int (nI z))) (by rw [Nat.max_def]; split <;> omega), rfl⟩
  · skip
    refine j_iload_n dJ9_max_7cf53_5 0 rfl ?_
    refine j_goto (tgt := 10) dJ9_max_7cf53_6 (by decide) ?_
    exact j_iret dJ9_max_7cf53_10 ⟨rfl, rfl⟩ ⟨congrArg (fun z => some (Value.int (nI z))) (by rw [Nat.max_def]; split <;> omega), rfl⟩

set_option maxHeartbeats 4000000 in
set_option maxRecDepth 100000 in
theorem c_X0_addressOf (E : Nat → Nat) (s : SS) (p k way : Nat) (hp : p < 24) (hn : gL s p 2 = nI (nn s p)) (h1 : 1 ≤ nn s p) (h2 : nn s p < 17) (hk : k < 2 ^ 31) (hw : way < 2) : Ct D yX0_addressOf cX0_addressOf 8 (some .int) ({ frames := 1, cells := 0, slots := 0, locals := 22 } : Room) [.ref (E 0), .int (nI p), .int (nI k), .int (nI way)] (EW D E s) (fun v_ u_ => v_ = some (.int (nI (ad s p k way))) ∧ u_ = EW D E s) := by
  refine ct_of (by decide) (Nat.le_of_ble_eq_true rfl) (lv0 := [(0, .ref (E 0)), (1, .int (nI p)), (2, .int (nI k)), (3, .int (nI way))]) rfl (fun Γ => ?_)
  refine j_aload_n dX0_addressOf_0 0 rfl ?_
  refine j_iload_n dX0_addressOf_1 1 rfl ?_
  refine j_iconst (v := nI 2) dX0_addressOf_2 (by decide) ?_
  refine j_V (w2 := EW D E s) (st2 := [.int (gL s p 2)]) (c_X0_ofLetter E s p 2 (by omega) (by omega)) rfl cw_X0_40 dX0_addressOf_3 [] rfl [0, 1, 2, 3, 4] rfl rfl rfl 0 ?_ ⟨rfl, ⟨Nat.le_of_ble_eq_true rfl, Nat.le_of_ble_eq_true rfl⟩, ⟨rfl, rfl⟩, ⟨Nat.le_of_ble_eq_true rfl, Nat.le_of_ble_eq_true rfl⟩, Nat.le_of_ble_eq_true rfl, rfl, rfl⟩ rfl rfl rfl
  refine j_topi (v := nI (nn s p)) (hn) ?_
  refine j_istore (lv2 := [(0, .ref (E 0)), (1, .int (nI p)), (2, .int (nI k)), (3, .int (nI way)), (4, .int (nI (nn s p)))]) dX0_addressOf_6 (by decide) [1, 2, 3, 4, 0] rfl ?_
  refine j_iload dX0_addressOf_8 4 rfl ?_
  refine j_if_gt_N (tgt := 15) dX0_addressOf_10 (by decide) (by omega) (fun h10 => ?_) (fun h10 => absurd (show 0 < nn s p by omega) h10)
  refine j_aload_n dX0_addressOf_15 0 rfl ?_
  refine j_iload_n dX0_addressOf_16 1 rfl ?_
  refine j_iconst (v := nI 0) dX0_addressOf_17 (by decide) ?_
  refine j_iload_n dX0_addressOf_18 3 rfl ?_
  refine j_iadd (v := nI (0 + way)) dX0_addressOf_19 (nI_add _ _) ?_
  refine j_V (w2 := EW D E s) (st2 := [.int (gL s p (0 + way))]) (c_X0_ofLetter E s p (0 + way) (by omega) (by omega)) rfl cw_X0_40 dX0_addressOf_20 [] rfl [0, 1, 2, 3, 4] rfl rfl rfl 0 ?_ ⟨rfl, ⟨Nat.le_of_ble_eq_true rfl, Nat.le_of_ble_eq_true rfl⟩, ⟨rfl, rfl⟩, ⟨Nat.le_of_ble_eq_true rfl, Nat.le_of_ble_eq_true rfl⟩, Nat.le_of_ble_eq_true rfl, rfl, rfl⟩ rfl rfl rfl
  refine j_topi (v := gL s p way) (by rw [Nat.zero_add]) ?_
  refine j_istore (lv2 := [(0, .ref (E 0)), (1, .int (nI p)), (2, .int (nI k)), (3, .int (nI way)), (4, .int (nI (nn s p))), (5, .int (gL s p way))]) dX0_addressOf_23 (by decide) [1, 2, 3, 4, 5, 0] rfl ?_
  refine j_iload_n dX0_addressOf_25 2 rfl ?_
  refine j_iload dX0_addressOf_26 4 rfl ?_
  refine j_idiv (v := nI (k / (nn s p))) dX0_addressOf_28 (nI_ne0 (by omega) (by omega)) (pk_div (by omega) (by omega) (by omega)) ?_
  refine j_aload_n dX0_addressOf_29 0 rfl ?_
  refine j_iload_n dX0_addressOf_30 1 rfl ?_
  refine j_bipush (v := nI 6) dX0_addressOf_31 (by decide) ?_
  refine j_iload_n dX0_addressOf_33 3 rfl ?_
  refine j_iadd (v := nI (6 + way)) dX0_addressOf_34 (nI_add _ _) ?_
  refine j_V (w2 := EW D E s) (st2 := [.int (gL s p (6 + way)), .int (nI (k / (nn s p)))]) (c_X0_ofLetter E s p (6 + way) (by omega) (by omega)) rfl cw_X0_40 dX0_addressOf_35 [.int (nI (k / (nn s p)))] rfl [0, 1, 2, 3, 4] rfl rfl rfl 0 ?_ ⟨rfl, ⟨Nat.le_of_ble_eq_true rfl, Nat.le_of_ble_eq_true rfl⟩, ⟨rfl, rfl⟩, ⟨Nat.le_of_ble_eq_true rfl, Nat.le_of_ble_eq_true rfl⟩, Nat.le_of_ble_eq_true rfl, rfl, rfl⟩ rfl rfl rfl
  refine j_imul (v := (nI (k / (nn s p))) * (gL s p (6 + way))) dX0_addressOf_38 (rfl) ?_
  refine j_istore (lv2 := [(0, .ref (E 0)), (1, .int (nI p)), (2, .int (nI k)), (3, .int (nI way)), (4, .int (nI (nn s p))), (5, .int (gL s p way)), (6, .int ((nI (k / (nn s p))) * (gL s p (6 + way))))]) dX0_addressOf_39 (by decide) [1, 2, 3, 4, 5, 6, 0] rfl ?_
  refine j_iload_n dX0_addressOf_41 2 rfl ?_
  refine j_iload dX0_addressOf_42 4 rfl ?_
  refine j_irem (v := nI (k % (nn s p))) dX0_addressOf_44 (nI_ne0 (by omega) (by omega)) (pk_rem (by omega) (by omega) (by omega)) ?_
  refine j_aload_n dX0_addressOf_45 0 rfl ?_
  refine j_iload_n dX0_addressOf_46 1 rfl ?_
  refine j_iconst (v := nI 3) dX0_addressOf_47 (by decide) ?_
  refine j_iload_n dX0_addressOf_48 3 rfl ?_
  refine j_iadd (v := nI (3 + way)) dX0_addressOf_49 (nI_add _ _) ?_
  refine j_V (w2 := EW D E s) (st2 := [.int (gL s p (3 + way)), .int (nI (k % (nn s p)))]) (c_X0_ofLetter E s p (3 + way) (by omega) (by omega)) rfl cw_X0_40 dX0_addressOf_50 [.int (nI (k % (nn s p)))] rfl [0, 1, 2, 3, 4] rfl rfl rfl 0 ?_ ⟨rfl, ⟨Nat.le_of_ble_eq_true rfl, Nat.le_of_ble_eq_true rfl⟩, ⟨rfl, rfl⟩, ⟨Nat.le_of_ble_eq_true rfl, Nat.le_of_ble_eq_true rfl⟩, Nat.le_of_ble_eq_true rfl, rfl, rfl⟩ rfl rfl rfl
  refine j_imul (v := (nI (k % (nn s p))) * (gL s p (3 + way))) dX0_addressOf_53 (rfl) ?_
  refine j_istore (lv2 := [(0, .ref (E 0)), (1, .int (nI p)), (2, .int (nI k)), (3, .int (nI way)), (4, .int (nI (nn s p))), (5, .int (gL s p way)), (6, .int ((nI (k / (nn s p))) * (gL s p (6 + way)))), (7, .int ((nI (k % (nn s p))) * (gL s p (3 + way))))]) dX0_addressOf_54 (by decide) [1, 2, 3, 4, 5, 6, 7, 0] rfl ?_
  refine j_iload dX0_addressOf_56 5 rfl ?_
  refine j_iload dX0_addressOf_58 6 rfl ?_
  refine j_iadd (v := (gL s p way) + ((nI (k / (nn s p))) * (gL s p (6 + way)))) dX0_addressOf_60 (rfl) ?_
  refine j_iload dX0_addressOf_61 7 rfl ?_
  refine j_iadd (v := ((gL s p way) + ((nI (k / (nn s p))) * (gL s p (6 + way)))) + ((nI (k % (nn s p))) * (gL s p (3 + way)))) dX0_addressOf_63 (rfl) ?_
  refine j_bipush (v := nI 64) dX0_addressOf_64 (by decide) ?_
  refine j_S (w2 := EW D E s) (st2 := [.int (nI (am (((gL s p way) + ((nI (k / (nn s p))) * (gL s p (6 + way)))) + ((nI (k % (nn s p))) * (gL s p (3 + way))))))]) (c_J9_floorMod_7cf53 (((gL s p way) + ((nI (k / (nn s p))) * (gL s p (6 + way)))) + ((nI (k % (nn s p))) * (gL s p (3 + way))))) rfl cw_X0_44 dX0_addressOf_66 [] rfl [] rfl rfl rfl ?_ ⟨rfl, ⟨Nat.le_of_ble_eq_true rfl, Nat.le_of_ble_eq_true rfl⟩, ⟨rfl, rfl⟩, ⟨Nat.le_of_ble_eq_true rfl, Nat.le_of_ble_eq_true rfl⟩, Nat.le_of_ble_eq_true rfl, rfl, rfl⟩
  exact j_iret dX0_addressOf_69 ⟨rfl, rfl⟩ ⟨rfl, rfl⟩

set_option maxHeartbeats 4000000 in
set_option maxRecDepth 100000 in
theorem c_X0_presentOf (E : Nat → Nat) (s : SS) (hI : Inv s) (c : Nat) (hc : c < 4) : Ct D yX0_presentOf cX0_presentOf 3 (some .int) ({ frames := 1, cells := 0, slots := 0, locals := 22 } : Room) [.ref (E 0), .int (nI c)] (EW D E s) (fun v_ u_ => v_ = some (.int (oN (prs s c))) ∧ u_ = EW D E s) := by
  have hpl := hI.pl_ hc
  refine ct_of (by decide) (Nat.le_of_ble_eq_true rfl) (lv0 := [(0, .ref (E 0)), (1, .int (nI c))]) rfl (fun Γ => ?_)
  refine j_iload_n dX0_presentOf_0 1 rfl ?_
  refine j_aload_n dX0_presentOf_1 0 rfl ?_
  refine j_iload_n dX0_presentOf_2 1 rfl ?_
  refine j_iconst (v := nI 4) dX0_presentOf_3 (by decide) ?_
  refine j_V (w2 := EW D E s) (st2 := [.int (gC s c 4), .int (nI c)]) (c_X0_ofChannel E s c 4 (by omega) (by omega)) rfl cw_X0_73 dX0_presentOf_4 [.int (nI c)] rfl [0, 1, 2, 3, 4] rfl rfl rfl 0 ?_ ⟨rfl, ⟨Nat.le_of_ble_eq_true rfl, Nat.le_of_ble_eq_true rfl⟩, ⟨rfl, rfl⟩, ⟨Nat.le_of_ble_eq_true rfl, Nat.le_of_ble_eq_true rfl⟩, Nat.le_of_ble_eq_true rfl, rfl, rfl⟩ rfl rfl rfl
  refine j_topi (v := nI (hd s c)) ((hI.hd_ hc).1) ?_
  refine j_S (w2 := EW D E s) (st2 := [.int (nI (c * 6 + (hd s c)))]) (c_X0_placeOf c (hd s c)) rfl cw_X0_64 dX0_presentOf_7 [] rfl [] rfl rfl rfl ?_ ⟨rfl, ⟨Nat.le_of_ble_eq_true rfl, Nat.le_of_ble_eq_true rfl⟩, ⟨rfl, rfl⟩, ⟨Nat.le_of_ble_eq_true rfl, Nat.le_of_ble_eq_true rfl⟩, Nat.le_of_ble_eq_true rfl, rfl, rfl⟩
  refine j_topi (v := nI (pl s c)) (rfl) ?_
  refine j_istore_n (lv2 := [(0, .ref (E 0)), (1, .int (nI c)), (2, .int (nI (pl s c)))]) dX0_presentOf_10 (by decide) [1, 2, 0] rfl ?_
  refine j_aload_n dX0_presentOf_11 0 rfl ?_
  refine j_iload_n dX0_presentOf_12 2 rfl ?_
  refine j_V (w2 := EW D E s) (st2 := [.int (bI (tc s (pl s c)))]) (c_X0_isToCarry E s (pl s c) (by omega)) rfl cw_X0_57 dX0_presentOf_13 [] rfl [0, 1, 2, 3, 4] rfl rfl rfl 0 ?_ ⟨rfl, ⟨Nat.le_of_ble_eq_true rfl, Nat.le_of_ble_eq_true rfl⟩, ⟨rfl, rfl⟩, ⟨Nat.le_of_ble_eq_true rfl, Nat.le_of_ble_eq_true rfl⟩, Nat.le_of_ble_eq_true rfl, rfl, rfl⟩ rfl rfl rfl
  refine j_if_eq_B (tgt := 23) dX0_presentOf_16 (by decide) (fun h16 => ?_) (fun h16 => ?_)
  · skip
    refine j_bipush (v := (-9)) dX0_presentOf_23 (by decide) ?_
    exact j_iret dX0_presentOf_25 ⟨rfl, rfl⟩ ⟨by rw [prs_f h16]; rfl, rfl⟩
  · skip
    refine j_iload_n dX0_presentOf_19 2 rfl ?_
    refine j_goto (tgt := 25) dX0_presentOf_20 (by decide) ?_
    exact j_iret dX0_presentOf_25 ⟨rfl, rfl⟩ ⟨by rw [prs_t h16]; rfl, rfl⟩

set_option maxHeartbeats 4000000 in
set_option maxRecDepth 100000 in
theorem c_X0_isReady (E : Nat → Nat) (s : SS) (hI : Inv s) (c : Nat) (hc : c < 4) : Ct D yX0_isReady cX0_isReady 3 (some .boolean) ({ frames := 2, cells := 0, slots := 0, locals := 44 } : Room) [.ref (E 0), .int (nI c)] (EW D E s) (fun v_ u_ => v_ = some (.int (bI (rdy s c))) ∧ u_ = EW D E s) := by
  have hpl := hI.pl_ hc
  refine ct_of (by decide) (Nat.le_of_ble_eq_true rfl) (lv0 := [(0, .ref (E 0)), (1, .int (nI c))]) rfl (fun Γ => ?_)
  refine j_aload_n dX0_isReady_0 0 rfl ?_
  refine j_iload_n dX0_isReady_1 1 rfl ?_
  refine j_V (w2 := EW D E s) (st2 := [.int (oN (prs s c))]) (c_X0_presentOf E s hI c (by omega)) rfl cw_X0_76 dX0_isReady_2 [] rfl [0, 1, 2, 3, 4] rfl rfl rfl 0 ?_ ⟨rfl, ⟨Nat.le_of_ble_eq_true rfl, Nat.le_of_ble_eq_true rfl⟩, ⟨rfl, rfl⟩, ⟨Nat.le_of_ble_eq_true rfl, Nat.le_of_ble_eq_true rfl⟩, Nat.le_of_ble_eq_true rfl, rfl, rfl⟩ rfl rfl rfl
  refine j_istore_n (lv2 := [(0, .ref (E 0)), (1, .int (nI c)), (2, .int (oN (prs s c)))]) dX0_isReady_5 (by decide) [1, 2, 0] rfl ?_
  rcases hpr : prs s c with _ | p
  · skip
    refine j_iload_n dX0_isReady_6 2 rfl ?_
    refine j_bipush (v := (-9)) dX0_isReady_7 (by decide) ?_
    refine j_icmp_eq (tgt := 21) dX0_isReady_9 (by decide) (fun h9 => ?_) (fun h9 => absurd rfl h9)
    refine j_iconst (v := nI 0) dX0_isReady_21 (by decide) ?_
    exact j_zret dX0_isReady_22 (rfl) ⟨rfl, rfl⟩ ⟨rv_f (rdy_f1 (prs_none hpr)), rfl⟩
  · skip
    obtain ⟨rfl, htc⟩ := prs_some hpr
    refine j_iload_n dX0_isReady_6 2 rfl ?_
    refine j_bipush (v := (-9)) dX0_isReady_7 (by decide) ?_
    refine j_icmp_eq (tgt := 21) dX0_isReady_9 (by decide) (fun h9 => absurd h9 (nI_m9 (by omega))) (fun h9 => ?_)
    refine j_aload_n dX0_isReady_12 0 rfl ?_
    refine j_iload_n dX0_isReady_13 1 rfl ?_
    refine j_iconst (v := nI 0) dX0_isReady_14 (by decide) ?_
    refine j_V (w2 := EW D E s) (st2 := [.int (gC s c 0)]) (c_X0_ofChannel E s c 0 (by omega) (by omega)) rfl cw_X0_73 dX0_isReady_15 [] rfl [0, 1, 2, 3, 4] rfl rfl rfl 0 ?_ ⟨rfl, ⟨Nat.le_of_ble_eq_true rfl, Nat.le_of_ble_eq_true rfl⟩, ⟨rfl, rfl⟩, ⟨Nat.le_of_ble_eq_true rfl, Nat.le_of_ble_eq_true rfl⟩, Nat.le_of_ble_eq_true rfl, rfl, rfl⟩ rfl rfl rfl
    refine j_if_ne (tgt := 23) dX0_isReady_18 (by decide) (fun h18 => ?_) (fun h18 => ?_)
    · skip
      refine j_aload_n dX0_isReady_23 0 rfl ?_
      refine g_X0_24 rfl dX0_isReady_24 0 rfl rfl ?_
      refine j_iconst (v := nI 4) dX0_isReady_27 (by decide) ?_
      refine j_icmp_lt (tgt := 47) dX0_isReady_28 (by decide) (fun h28 => ?_) (fun h28 => absurd hI.q4 h28)
      refine j_iconst (v := nI 1) dX0_isReady_47 (by decide) ?_
      refine j_goto (tgt := 52) dX0_isReady_48 (by decide) ?_
      exact j_zret dX0_isReady_52 (rfl) ⟨rfl, rfl⟩ ⟨rv_t (rdy_t htc hI hc h18), rfl⟩
    · skip
      refine j_iconst (v := nI 0) dX0_isReady_21 (by decide) ?_
      exact j_zret dX0_isReady_22 (rfl) ⟨rfl, rfl⟩ ⟨rv_f (rdy_f2 h18), rfl⟩

set_option maxHeartbeats 4000000 in
set_option maxRecDepth 100000 in
theorem c_X0_nextToGrant (E : Nat → Nat) (s : SS) (hI : Inv s) : Ct D yX0_nextToGrant cX0_nextToGrant 4 (some .int) ({ frames := 3, cells := 0, slots := 0, locals := 66 } : Room) [.ref (E 0)] (EW D E s) (fun v_ u_ => v_ = some (.int (oN (who s))) ∧ u_ = EW D E s) := by
  have hl := hI.lst_.2
  refine ct_of (by decide) (Nat.le_of_ble_eq_true rfl) (lv0 := [(0, .ref (E 0))]) rfl (fun Γ => ?_)
  refine j_bipush (v := (-9)) dX0_nextToGrant_0 (by decide) ?_
  refine j_istore_n (lv2 := [(0, .ref (E 0)), (1, .int (-9))]) dX0_nextToGrant_2 (by decide) [1, 0] rfl ?_
  refine j_iconst (v := nI 1) dX0_nextToGrant_3 (by decide) ?_
  refine j_istore_n (lv2 := [(0, .ref (E 0)), (1, .int (-9)), (2, .int (nI 1))]) dX0_nextToGrant_4 (by decide) [1, 2, 0] rfl ?_
  have L5 : ∀ (fuel : Nat) (i : Nat), i ≤ 4 → 4 - i < fuel → J D Γ yX0_nextToGrant cX0_nextToGrant 4 (some .int) ({ frames := 3, cells := 0, slots := 0, locals := 66 } : Room) (Qf D Γ ({ frames := 3, cells := 0, slots := 0, locals := 66 } : Room) (fun v_ u_ => v_ = some (.int (oN (who s))) ∧ u_ = EW D E s)) 0 0 (EW D E s) 5 [(0, .ref (E 0)), (1, .int (oN (whoN s i))), (2, .int (nI (i + 1)))] [] := by
    intro fuel
    induction fuel with
    | zero => intro i hi hm; exact absurd hm (Nat.not_lt_zero _)
    | succ fuel ih =>
      intro i hi hm
      have hc4 : (lst s + (i + 1)) % 4 < 4 := Nat.mod_lt _ (by decide)
      refine j_iload_n dX0_nextToGrant_5 2 rfl ?_
      refine j_iconst (v := nI 4) dX0_nextToGrant_6 (by decide) ?_
      refine j_icmp_gt_N (tgt := 56) dX0_nextToGrant_7 (by decide) ⟨by omega, by omega⟩ (fun h7 => ?_) (fun h7 => ?_)
      · skip
        refine j_iload_n dX0_nextToGrant_56 1 rfl ?_
        exact j_iret dX0_nextToGrant_57 ⟨rfl, rfl⟩ ⟨by have e : i = 4   := (by omega); subst e; rfl, rfl⟩
      · skip
        refine j_aload_n dX0_nextToGrant_10 0 rfl ?_
        refine g_X0_28 rfl dX0_nextToGrant_11 0 rfl rfl ?_
        refine j_topi (v := nI (lst s)) (hI.lst_.1) ?_
        refine j_iload_n dX0_nextToGrant_14 2 rfl ?_
        refine j_iadd (v := nI (lst s + (i + 1))) dX0_nextToGrant_15 (nI_add _ _) ?_
        refine j_iconst (v := nI 4) dX0_nextToGrant_16 (by decide) ?_
        refine j_irem (v := nI ((lst s + (i + 1)) % 4)) dX0_nextToGrant_17 (by decide) (pk_rem (by omega) (by omega) (by omega)) ?_
        refine j_istore_n (lv2 := [(0, .ref (E 0)), (1, .int (oN (whoN s i))), (2, .int (nI (i + 1))), (3, .int (nI ((lst s + (i + 1)) % 4)))]) dX0_nextToGrant_18 (by decide) [1, 2, 3, 0] rfl ?_
        refine j_aload_n dX0_nextToGrant_19 0 rfl ?_
        refine j_iload_n dX0_nextToGrant_20 3 rfl ?_
        refine j_V (w2 := EW D E s) (st2 := [.int (bI (rdy s ((lst s + (i + 1)) % 4)))]) (c_X0_isReady E s hI ((lst s + (i + 1)) % 4) (by omega)) rfl cw_X0_117 dX0_nextToGrant_21 [] rfl [0, 1, 2, 3, 4] rfl rfl rfl 0 ?_ ⟨rfl, ⟨Nat.le_of_ble_eq_true rfl, Nat.le_of_ble_eq_true rfl⟩, ⟨rfl, rfl⟩, ⟨Nat.le_of_ble_eq_true rfl, Nat.le_of_ble_eq_true rfl⟩, Nat.le_of_ble_eq_true rfl, rfl, rfl⟩ rfl rfl rfl
        refine j_if_eq_B (tgt := 50) dX0_nextToGrant_24 (by decide) (fun h24 => ?_) (fun h24 => ?_)
        · skip
          refine j_iinc (v := nI (i + 1 + 1)) (lv2 := [(0, .ref (E 0)), (1, .int (oN (whoN s i))), (2, .int (nI (i + 1 + 1))), (3, .int (nI ((lst s + (i + 1)) % 4)))]) dX0_nextToGrant_50 2 rfl (nI_1 _) (by decide) [1, 2, 0, 3] rfl ?_
          refine j_goto (tgt := 5) dX0_nextToGrant_53 (by decide) ?_
          refine j_lv (lv2 := [(0, .ref (E 0)), (1, .int (oN (whoN s i))), (2, .int (nI (i + 1 + 1)))]) [0, 1, 2] rfl ?_
          have hh := ih (i + 1) (by omega) (by omega)
          rw [show whoN s (i + 1) = whoN s i from wst_n h24] at hh
          exact hh
        · skip
          rcases hb : whoN s i with _ | d
          · skip
            refine j_iload_n dX0_nextToGrant_27 1 rfl ?_
            refine j_bipush (v := (-9)) dX0_nextToGrant_28 (by decide) ?_
            refine j_icmp_eq (tgt := 48) dX0_nextToGrant_30 (by decide) (fun h30 => ?_) (fun h30 => absurd rfl h30)
            refine j_iload_n dX0_nextToGrant_48 3 rfl ?_
            refine j_istore_n (lv2 := [(0, .ref (E 0)), (1, .int (nI ((lst s + (i + 1)) % 4))), (2, .int (nI (i + 1))), (3, .int (nI ((lst s + (i + 1)) % 4)))]) dX0_nextToGrant_49 (by decide) [1, 0, 2, 3] rfl ?_
            refine j_iinc (v := nI (i + 1 + 1)) (lv2 := [(0, .ref (E 0)), (1, .int (nI ((lst s + (i + 1)) % 4))), (2, .int (nI (i + 1 + 1))), (3, .int (nI ((lst s + (i + 1)) % 4)))]) dX0_nextToGrant_50 2 rfl (nI_1 _) (by decide) [1, 2, 0, 3] rfl ?_
            refine j_goto (tgt := 5) dX0_nextToGrant_53 (by decide) ?_
            refine j_lv (lv2 := [(0, .ref (E 0)), (1, .int (nI ((lst s + (i + 1)) % 4))), (2, .int (nI (i + 1 + 1)))]) [0, 1, 2] rfl ?_
            have hh := ih (i + 1) (by omega) (by omega)
            rw [show whoN s (i + 1) = some ((lst s + (i + 1)) % 4) from (by show wst s (whoN s i) _ = some ((lst s + (i + 1)) % 4); rw [hb]; exact wst_0 h24)] at hh
            exact hh
          · skip
            have hd4 := whoN_lt s i d hb
            refine j_iload_n dX0_nextToGrant_27 1 rfl ?_
            refine j_bipush (v := (-9)) dX0_nextToGrant_28 (by decide) ?_
            refine j_icmp_eq (tgt := 48) dX0_nextToGrant_30 (by decide) (fun h30 => absurd h30 (nI_m9 (by omega))) (fun h30 => ?_)
            refine j_aload_n dX0_nextToGrant_33 0 rfl ?_
            refine j_iload_n dX0_nextToGrant_34 3 rfl ?_
            refine j_iconst (v := nI 1) dX0_nextToGrant_35 (by decide) ?_
            refine j_V (w2 := EW D E s) (st2 := [.int (gC s ((lst s + (i + 1)) % 4) 1)]) (c_X0_ofChannel E s ((lst s + (i + 1)) % 4) 1 (by omega) (by omega)) rfl cw_X0_73 dX0_nextToGrant_36 [] rfl [0, 1, 2, 3, 4] rfl rfl rfl 0 ?_ ⟨rfl, ⟨Nat.le_of_ble_eq_true rfl, Nat.le_of_ble_eq_true rfl⟩, ⟨rfl, rfl⟩, ⟨Nat.le_of_ble_eq_true rfl, Nat.le_of_ble_eq_true rfl⟩, Nat.le_of_ble_eq_true rfl, rfl, rfl⟩ rfl rfl rfl
            refine j_aload_n dX0_nextToGrant_39 0 rfl ?_
            refine j_iload_n dX0_nextToGrant_40 1 rfl ?_
            refine j_iconst (v := nI 1) dX0_nextToGrant_41 (by decide) ?_
            refine j_V (w2 := EW D E s) (st2 := [.int (gC s d 1), .int (gC s ((lst s + (i + 1)) % 4) 1)]) (c_X0_ofChannel E s d 1 (by omega) (by omega)) rfl cw_X0_73 dX0_nextToGrant_42 [.int (gC s ((lst s + (i + 1)) % 4) 1)] rfl [0, 1, 2, 3, 4] rfl rfl rfl 0 ?_ ⟨rfl, ⟨Nat.le_of_ble_eq_true rfl, Nat.le_of_ble_eq_true rfl⟩, ⟨rfl, rfl⟩, ⟨Nat.le_of_ble_eq_true rfl, Nat.le_of_ble_eq_true rfl⟩, Nat.le_of_ble_eq_true rfl, rfl, rfl⟩ rfl rfl rfl
            refine j_icmp_le (tgt := 50) dX0_nextToGrant_45 (by decide) (fun h45 => ?_) (fun h45 => ?_)
            · skip
              refine j_iinc (v := nI (i + 1 + 1)) (lv2 := [(0, .ref (E 0)), (1, .int (nI d)), (2, .int (nI (i + 1 + 1))), (3, .int (nI ((lst s + (i + 1)) % 4)))]) dX0_nextToGrant_50 2 rfl (nI_1 _) (by decide) [1, 2, 0, 3] rfl ?_
              refine j_goto (tgt := 5) dX0_nextToGrant_53 (by decide) ?_
              refine j_lv (lv2 := [(0, .ref (E 0)), (1, .int (nI d)), (2, .int (nI (i + 1 + 1)))]) [0, 1, 2] rfl ?_
              have hh := ih (i + 1) (by omega) (by omega)
              rw [show whoN s (i + 1) = some d from (by show wst s (whoN s i) _ = some d; rw [hb]; exact wst_no (Int32.not_lt.mpr h45))] at hh
              exact hh
            · skip
              refine j_iload_n dX0_nextToGrant_48 3 rfl ?_
              refine j_istore_n (lv2 := [(0, .ref (E 0)), (1, .int (nI ((lst s + (i + 1)) % 4))), (2, .int (nI (i + 1))), (3, .int (nI ((lst s + (i + 1)) % 4)))]) dX0_nextToGrant_49 (by decide) [1, 0, 2, 3] rfl ?_
              refine j_iinc (v := nI (i + 1 + 1)) (lv2 := [(0, .ref (E 0)), (1, .int (nI ((lst s + (i + 1)) % 4))), (2, .int (nI (i + 1 + 1))), (3, .int (nI ((lst s + (i + 1)) % 4)))]) dX0_nextToGrant_50 2 rfl (nI_1 _) (by decide) [1, 2, 0, 3] rfl ?_
              refine j_goto (tgt := 5) dX0_nextToGrant_53 (by decide) ?_
              refine j_lv (lv2 := [(0, .ref (E 0)), (1, .int (nI ((lst s + (i + 1)) % 4))), (2, .int (nI (i + 1 + 1)))]) [0, 1, 2] rfl ?_
              have hh := ih (i + 1) (by omega) (by omega)
              rw [show whoN s (i + 1) = some ((lst s + (i + 1)) % 4) from (by show wst s (whoN s i) _ = some ((lst s + (i + 1)) % 4); rw [hb]; exact wst_y h24 (Int32.not_le.mp h45))] at hh
              exact hh
  exact L5 5 0 (by omega) (by omega)

set_option maxHeartbeats 4000000 in
set_option maxRecDepth 100000 in
theorem c_X0_engineLettersOf (E : Nat → Nat) (s : SS) (c : Nat) (hc : c < 4) : Ct D yX0_engineLettersOf cX0_engineLettersOf 4 (some .int) ({ frames := 2, cells := 0, slots := 0, locals := 43 } : Room) [.ref (E 0), .int (nI c)] (EW D E s) (fun v_ u_ => v_ = some (.int (nI (elo s c))) ∧ u_ = EW D E s) := by
  refine ct_of (by decide) (Nat.le_of_ble_eq_true rfl) (lv0 := [(0, .ref (E 0)), (1, .int (nI c))]) rfl (fun Γ => ?_)
  refine j_iconst (v := nI 0) dX0_engineLettersOf_0 (by decide) ?_
  refine j_istore_n (lv2 := [(0, .ref (E 0)), (1, .int (nI c)), (2, .int (nI 0))]) dX0_engineLettersOf_1 (by decide) [1, 2, 0] rfl ?_
  refine j_iconst (v := nI 0) dX0_engineLettersOf_2 (by decide) ?_
  refine j_istore_n (lv2 := [(0, .ref (E 0)), (1, .int (nI c)), (2, .int (nI 0)), (3, .int (nI 0))]) dX0_engineLettersOf_3 (by decide) [1, 2, 3, 0] rfl ?_
  have L4 : ∀ (fuel : Nat) (j : Nat), j ≤ 6 → 6 - j < fuel → J D Γ yX0_engineLettersOf cX0_engineLettersOf 4 (some .int) ({ frames := 2, cells := 0, slots := 0, locals := 43 } : Room) (Qf D Γ ({ frames := 2, cells := 0, slots := 0, locals := 43 } : Room) (fun v_ u_ => v_ = some (.int (nI (elo s c))) ∧ u_ = EW D E s)) 0 0 (EW D E s) 4 [(0, .ref (E 0)), (1, .int (nI c)), (2, .int (nI (cnt (fun j => eng s (c * 6 + j)) j))), (3, .int (nI j))] [] := by
    intro fuel
    induction fuel with
    | zero => intro j hj hm; exact absurd hm (Nat.not_lt_zero _)
    | succ fuel ih =>
      intro j hj hm
      have hcn := cnt_le (fun j => eng s (c * 6 + j)) j
      refine j_iload_n dX0_engineLettersOf_4 3 rfl ?_
      refine j_bipush (v := nI 6) dX0_engineLettersOf_5 (by decide) ?_
      refine j_icmp_ge_N (tgt := 31) dX0_engineLettersOf_7 (by decide) ⟨by omega, by omega⟩ (fun h7 => ?_) (fun h7 => ?_)
      · skip
        refine j_iload_n dX0_engineLettersOf_31 2 rfl ?_
        exact j_iret dX0_engineLettersOf_32 ⟨rfl, rfl⟩ ⟨congrArg (fun z => some (Value.int (nI z))) (by have e : j = 6   := (by omega); subst e; rfl), rfl⟩
      · skip
        refine j_aload_n dX0_engineLettersOf_10 0 rfl ?_
        refine j_iload_n dX0_engineLettersOf_11 1 rfl ?_
        refine j_iload_n dX0_engineLettersOf_12 3 rfl ?_
        refine j_S (w2 := EW D E s) (st2 := [.int (nI (c * 6 + j)), .ref (E 0)]) (c_X0_placeOf c j) rfl cw_X0_64 dX0_engineLettersOf_13 [.ref (E 0)] rfl [] rfl rfl rfl ?_ ⟨rfl, ⟨Nat.le_of_ble_eq_true rfl, Nat.le_of_ble_eq_true rfl⟩, ⟨rfl, rfl⟩, ⟨Nat.le_of_ble_eq_true rfl, Nat.le_of_ble_eq_true rfl⟩, Nat.le_of_ble_eq_true rfl, rfl, rfl⟩
        refine j_V (w2 := EW D E s) (st2 := [.int (bI (eng s (c * 6 + j)))]) (c_X0_isEngines E s (c * 6 + j) (by omega)) rfl cw_X0_67 dX0_engineLettersOf_16 [] rfl [0, 1, 2, 3, 4] rfl rfl rfl 0 ?_ ⟨rfl, ⟨Nat.le_of_ble_eq_true rfl, Nat.le_of_ble_eq_true rfl⟩, ⟨rfl, rfl⟩, ⟨Nat.le_of_ble_eq_true rfl, Nat.le_of_ble_eq_true rfl⟩, Nat.le_of_ble_eq_true rfl, rfl, rfl⟩ rfl rfl rfl
        refine j_if_eq_B (tgt := 25) dX0_engineLettersOf_19 (by decide) (fun h19 => ?_) (fun h19 => ?_)
        · skip
          refine j_iinc (v := nI (j + 1)) (lv2 := [(0, .ref (E 0)), (1, .int (nI c)), (2, .int (nI (cnt (fun j => eng s (c * 6 + j)) j))), (3, .int (nI (j + 1)))]) dX0_engineLettersOf_25 3 rfl (nI_1 _) (by decide) [1, 2, 3, 0] rfl ?_
          refine j_goto (tgt := 4) dX0_engineLettersOf_28 (by decide) ?_
          have hh := ih (j + 1) (by omega) (by omega)
          rw [cnt_f (f := (fun j => eng s (c * 6 + j))) h19] at hh
          exact hh
        · skip
          refine j_iinc (v := nI (cnt (fun j => eng s (c * 6 + j)) j + 1)) (lv2 := [(0, .ref (E 0)), (1, .int (nI c)), (2, .int (nI (cnt (fun j => eng s (c * 6 + j)) j + 1))), (3, .int (nI j))]) dX0_engineLettersOf_22 2 rfl (nI_1 _) (by decide) [1, 2, 0, 3] rfl ?_
          refine j_iinc (v := nI (j + 1)) (lv2 := [(0, .ref (E 0)), (1, .int (nI c)), (2, .int (nI (cnt (fun j => eng s (c * 6 + j)) j + 1))), (3, .int (nI (j + 1)))]) dX0_engineLettersOf_25 3 rfl (nI_1 _) (by decide) [1, 2, 3, 0] rfl ?_
          refine j_goto (tgt := 4) dX0_engineLettersOf_28 (by decide) ?_
          have hh := ih (j + 1) (by omega) (by omega)
          rw [cnt_t (f := (fun j => eng s (c * 6 + j))) h19] at hh
          exact hh
  exact L4 7 0 (by omega) (by omega)

set_option maxHeartbeats 4000000 in
set_option maxRecDepth 100000 in
theorem c_X0_engineLetters (E : Nat → Nat) (s : SS) : Ct D yX0_engineLetters cX0_engineLetters 3 (some .int) ({ frames := 3, cells := 0, slots := 0, locals := 66 } : Room) [.ref (E 0)] (EW D E s) (fun v_ u_ => v_ = some (.int (nI (els s 4))) ∧ u_ = EW D E s) := by
  refine ct_of (by decide) (Nat.le_of_ble_eq_true rfl) (lv0 := [(0, .ref (E 0))]) rfl (fun Γ => ?_)
  refine j_iconst (v := nI 0) dX0_engineLetters_0 (by decide) ?_
  refine j_istore_n (lv2 := [(0, .ref (E 0)), (1, .int (nI 0))]) dX0_engineLetters_1 (by decide) [1, 0] rfl ?_
  refine j_iconst (v := nI 0) dX0_engineLetters_2 (by decide) ?_
  refine j_istore_n (lv2 := [(0, .ref (E 0)), (1, .int (nI 0)), (2, .int (nI 0))]) dX0_engineLetters_3 (by decide) [1, 2, 0] rfl ?_
  have L4 : ∀ (fuel : Nat) (i : Nat), i ≤ 4 → 4 - i < fuel → J D Γ yX0_engineLetters cX0_engineLetters 3 (some .int) ({ frames := 3, cells := 0, slots := 0, locals := 66 } : Room) (Qf D Γ ({ frames := 3, cells := 0, slots := 0, locals := 66 } : Room) (fun v_ u_ => v_ = some (.int (nI (els s 4))) ∧ u_ = EW D E s)) 0 0 (EW D E s) 4 [(0, .ref (E 0)), (1, .int (nI (els s i))), (2, .int (nI i))] [] := by
    intro fuel
    induction fuel with
    | zero => intro i hi hm; exact absurd hm (Nat.not_lt_zero _)
    | succ fuel ih =>
      intro i hi hm
      refine j_iload_n dX0_engineLetters_4 2 rfl ?_
      refine j_iconst (v := nI 4) dX0_engineLetters_5 (by decide) ?_
      refine j_icmp_ge_N (tgt := 23) dX0_engineLetters_6 (by decide) ⟨by omega, by omega⟩ (fun h6 => ?_) (fun h6 => ?_)
      · skip
        refine j_iload_n dX0_engineLetters_23 1 rfl ?_
        exact j_iret dX0_engineLetters_24 ⟨rfl, rfl⟩ ⟨congrArg (fun z => some (Value.int (nI z))) (by have e : i = 4   := (by omega); subst e; rfl), rfl⟩
      · skip
        refine j_iload_n dX0_engineLetters_9 1 rfl ?_
        refine j_aload_n dX0_engineLetters_10 0 rfl ?_
        refine j_iload_n dX0_engineLetters_11 2 rfl ?_
        refine j_V (w2 := EW D E s) (st2 := [.int (nI (elo s i)), .int (nI (els s i))]) (c_X0_engineLettersOf E s i (by omega)) rfl cw_X0_70 dX0_engineLetters_12 [.int (nI (els s i))] rfl [0, 1, 2, 3, 4] rfl rfl rfl 0 ?_ ⟨rfl, ⟨Nat.le_of_ble_eq_true rfl, Nat.le_of_ble_eq_true rfl⟩, ⟨rfl, rfl⟩, ⟨Nat.le_of_ble_eq_true rfl, Nat.le_of_ble_eq_true rfl⟩, Nat.le_of_ble_eq_true rfl, rfl, rfl⟩ rfl rfl rfl
        refine j_iadd (v := nI (els s i + (elo s i))) dX0_engineLetters_15 (nI_add _ _) ?_
        refine j_istore_n (lv2 := [(0, .ref (E 0)), (1, .int (nI (els s i + (elo s i)))), (2, .int (nI i))]) dX0_engineLetters_16 (by decide) [1, 0, 2] rfl ?_
        refine j_iinc (v := nI (i + 1)) (lv2 := [(0, .ref (E 0)), (1, .int (nI (els s i + (elo s i)))), (2, .int (nI (i + 1)))]) dX0_engineLetters_17 2 rfl (nI_1 _) (by decide) [1, 2, 0] rfl ?_
        refine j_goto (tgt := 4) dX0_engineLetters_20 (by decide) ?_
        exact ih (i + 1) (by omega) (by omega)
  exact L4 5 0 (by omega) (by omega)

set_option maxHeartbeats 4000000 in
set_option maxRecDepth 100000 in
theorem c_X0_copyFrom (E F : Nat → Nat) (s t : SS) : Ct D yX0_copyFrom cX0_copyFrom 2 none ({ frames := 1, cells := 0, slots := 0, locals := 60 } : Room) [.ref (E 0), .ref (F 0)] ((EW D E s) ++ (EW D F t)) (fun v_ u_ => v_ = none ∧ u_ = (EW D E t) ++ (EW D F t)) := by
  refine ct_of (by decide) (Nat.le_of_ble_eq_true rfl) (lv0 := [(0, .ref (E 0)), (1, .ref (F 0))]) rfl (fun Γ => ?_)
  refine j_aload_n dX0_copyFrom_0 1 rfl ?_
  refine g_X0_9 rfl dX0_copyFrom_1 5 rfl rfl ?_
  refine j_iconst (v := nI 0) dX0_copyFrom_4 (by decide) ?_
  refine j_aload_n dX0_copyFrom_5 0 rfl ?_
  refine g_X0_9 rfl dX0_copyFrom_6 0 rfl rfl ?_
  refine j_iconst (v := nI 0) dX0_copyFrom_9 (by decide) ?_
  refine j_aload_n dX0_copyFrom_10 0 rfl ?_
  refine g_X0_9 rfl dX0_copyFrom_11 0 rfl rfl ?_
  refine j_alen (v := nI 64) dX0_copyFrom_14 1 0 rfl rfl rfl ?_
  refine j_copy (w2 := (EX D E (vM t) (vC s) (vL s) (vQ s) (s 428) (s 453) (s 454)) ++ (EW D F t)) m_ml_X0_34 dX0_copyFrom_15 6 1 0 0 64 rfl rfl rfl rfl rfl (by decide) (by decide) (by decide) (Nat.le_of_ble_eq_true rfl) (Nat.le_of_ble_eq_true rfl) ⟨Nat.le_of_ble_eq_true rfl, Nat.le_of_ble_eq_true rfl⟩ (by rw [cpyM]; rfl) ?_
  refine j_aload_n dX0_copyFrom_18 1 rfl ?_
  refine g_X0_15 rfl dX0_copyFrom_19 5 rfl rfl ?_
  refine j_iconst (v := nI 0) dX0_copyFrom_22 (by decide) ?_
  refine j_aload_n dX0_copyFrom_23 0 rfl ?_
  refine g_X0_15 rfl dX0_copyFrom_24 0 rfl rfl ?_
  refine j_iconst (v := nI 0) dX0_copyFrom_27 (by decide) ?_
  refine j_aload_n dX0_copyFrom_28 0 rfl ?_
  refine g_X0_15 rfl dX0_copyFrom_29 0 rfl rfl ?_
  refine j_alen (v := nI 28) dX0_copyFrom_32 2 0 rfl rfl rfl ?_
  refine j_copy (w2 := (EX D E (vM t) (vC t) (vL s) (vQ s) (s 428) (s 453) (s 454)) ++ (EW D F t)) m_ml_X0_34 dX0_copyFrom_33 7 2 0 0 28 rfl rfl rfl rfl rfl (by decide) (by decide) (by decide) (Nat.le_of_ble_eq_true rfl) (Nat.le_of_ble_eq_true rfl) ⟨Nat.le_of_ble_eq_true rfl, Nat.le_of_ble_eq_true rfl⟩ (by rw [cpyC]; rfl) ?_
  refine j_aload_n dX0_copyFrom_36 1 rfl ?_
  refine g_X0_18 rfl dX0_copyFrom_37 5 rfl rfl ?_
  refine j_iconst (v := nI 0) dX0_copyFrom_40 (by decide) ?_
  refine j_aload_n dX0_copyFrom_41 0 rfl ?_
  refine g_X0_18 rfl dX0_copyFrom_42 0 rfl rfl ?_
  refine j_iconst (v := nI 0) dX0_copyFrom_45 (by decide) ?_
  refine j_aload_n dX0_copyFrom_46 0 rfl ?_
  refine g_X0_18 rfl dX0_copyFrom_47 0 rfl rfl ?_
  refine j_alen (v := nI 312) dX0_copyFrom_50 3 0 rfl rfl rfl ?_
  refine j_copy (w2 := (EX D E (vM t) (vC t) (vL t) (vQ s) (s 428) (s 453) (s 454)) ++ (EW D F t)) m_ml_X0_34 dX0_copyFrom_51 8 3 0 0 312 rfl rfl rfl rfl rfl (by decide) (by decide) (by decide) (Nat.le_of_ble_eq_true rfl) (Nat.le_of_ble_eq_true rfl) ⟨Nat.le_of_ble_eq_true rfl, Nat.le_of_ble_eq_true rfl⟩ (by rw [cpyL]; rfl) ?_
  refine j_aload_n dX0_copyFrom_54 1 rfl ?_
  refine g_X0_21 rfl dX0_copyFrom_55 5 rfl rfl ?_
  refine j_iconst (v := nI 0) dX0_copyFrom_58 (by decide) ?_
  refine j_aload_n dX0_copyFrom_59 0 rfl ?_
  refine g_X0_21 rfl dX0_copyFrom_60 0 rfl rfl ?_
  refine j_iconst (v := nI 0) dX0_copyFrom_63 (by decide) ?_
  refine j_aload_n dX0_copyFrom_64 0 rfl ?_
  refine g_X0_21 rfl dX0_copyFrom_65 0 rfl rfl ?_
  refine j_alen (v := nI 24) dX0_copyFrom_68 4 0 rfl rfl rfl ?_
  refine j_copy (w2 := (EX D E (vM t) (vC t) (vL t) (vQ t) (s 428) (s 453) (s 454)) ++ (EW D F t)) m_ml_X0_34 dX0_copyFrom_69 9 4 0 0 24 rfl rfl rfl rfl rfl (by decide) (by decide) (by decide) (Nat.le_of_ble_eq_true rfl) (Nat.le_of_ble_eq_true rfl) ⟨Nat.le_of_ble_eq_true rfl, Nat.le_of_ble_eq_true rfl⟩ (by rw [cpyQ]; rfl) ?_
  refine j_aload_n dX0_copyFrom_72 0 rfl ?_
  refine j_aload_n dX0_copyFrom_73 1 rfl ?_
  refine g_X0_24 rfl dX0_copyFrom_74 5 rfl rfl ?_
  refine p_X0_24 (w2 := (EX D E (vM t) (vC t) (vL t) (vQ t) (t 428) (s 453) (s 454)) ++ (EW D F t)) rfl dX0_copyFrom_77 0 rfl (Nat.le_of_ble_eq_true rfl) (rfl) ?_
  refine j_aload_n dX0_copyFrom_80 0 rfl ?_
  refine j_aload_n dX0_copyFrom_81 1 rfl ?_
  refine g_X0_28 rfl dX0_copyFrom_82 5 rfl rfl ?_
  refine p_X0_28 (w2 := (EX D E (vM t) (vC t) (vL t) (vQ t) (t 428) (t 453) (s 454)) ++ (EW D F t)) rfl dX0_copyFrom_85 0 rfl (Nat.le_of_ble_eq_true rfl) (rfl) ?_
  refine j_aload_n dX0_copyFrom_88 0 rfl ?_
  refine j_aload_n dX0_copyFrom_89 1 rfl ?_
  refine g_X0_31 rfl dX0_copyFrom_90 5 rfl rfl ?_
  refine p_X0_31 (w2 := (EX D E (vM t) (vC t) (vL t) (vQ t) (t 428) (t 453) (t 454)) ++ (EW D F t)) rfl dX0_copyFrom_93 0 rfl (Nat.le_of_ble_eq_true rfl) (rfl) ?_
  exact j_vret dX0_copyFrom_96 ⟨rfl, rfl⟩ ⟨rfl, rfl⟩

end EN2
end
section
/-! what is changed: written back, granted, a tick; and that it keeps what holds -/
theorem ChOk_up {s : SS} {k c : Nat} {x : Int32} (h : ∀ j, j < 5 → 64 + 7 * c + j ≠ k) (hs : ChOk s c) : ChOk (upd s k x) c := by
  unfold ChOk gC at *
  rw [up_ne (h 0 (by decide)), up_ne (h 1 (by decide)), up_ne (h 2 (by decide)), up_ne (h 3 (by decide)), up_ne (h 4 (by decide))]
  exact hs
theorem nn_up {s : SS} {k p : Nat} {x : Int32} (h : 93 + 14 * p + 2 ≠ k) : nn (upd s k x) p = nn s p := by unfold nn gL; rw [up_ne h]
theorem rr_up {s : SS} {k p : Nat} {x : Int32} (h : 93 + 14 * p + 5 ≠ k) : rr (upd s k x) p = rr s p := by unfold rr gL; rw [up_ne h]
theorem re_up {s : SS} {k p : Nat} {x : Int32} (h : 93 + 14 * p + 11 ≠ k) : re (upd s k x) p = re s p := by unfold re gL; rw [up_ne h]
theorem un_up {s : SS} {k p : Nat} {x : Int32} (h : 93 + 14 * p + 2 ≠ k) (h2 : 93 + 14 * p + 5 ≠ k) : un (upd s k x) p = un s p := by unfold un; rw [nn_up h, rr_up h2]
theorem hd_up {s : SS} {k c : Nat} {x : Int32} (h : 64 + 7 * c + 4 ≠ k) : hd (upd s k x) c = hd s c := by unfold hd gC; rw [up_ne h]
theorem bu_up {s : SS} {k c : Nat} {x : Int32} (h : 64 + 7 * c + 2 ≠ k) : bu (upd s k x) c = bu s c := by unfold bu gC; rw [up_ne h]
theorem pl_up {s : SS} {k c : Nat} {x : Int32} (h : 64 + 7 * c + 4 ≠ k) : pl (upd s k x) c = pl s c := by unfold pl; rw [hd_up h]
theorem tc_up {s : SS} {k p : Nat} {x : Int32} (h : 93 + 14 * p + 9 ≠ k) (h2 : 93 + 14 * p + 12 ≠ k) : tc (upd s k x) p = tc s p := by unfold tc gL; rw [up_ne h, up_ne h2]
theorem eng_up {s : SS} {k p : Nat} {x : Int32} (h : 93 + 14 * p + 9 ≠ k) : eng (upd s k x) p = eng s p := by unfold eng gL; rw [up_ne h]
theorem LeOk_up {s : SS} {k p : Nat} {x : Int32} (h : 92 + 14 * p ≠ k ∧ 93 + 14 * p + 2 ≠ k ∧ 93 + 14 * p + 5 ≠ k ∧ 93 + 14 * p + 9 ≠ k ∧ 93 + 14 * p + 11 ≠ k) (hs : LeOk s p) : LeOk (upd s k x) p := by
  unfold LeOk gL at *
  rw [un_up h.2.1 h.2.2.1, up_ne h.1, up_ne h.2.1, up_ne h.2.2.1, up_ne h.2.2.2.1, up_ne h.2.2.2.2]
  exact hs
/-- the owner of a letter that is there may be anyone -/
theorem LeOk_ow {s : SS} {p : Nat} {x : Int32} (hs : LeOk s p) (hh : s (92 + 14 * p) ≠ 0) : LeOk (upd s (93 + 14 * p + 9) x) p := by
  rcases hs with q | q
  · exact absurd q.1 hh
  · refine Or.inr ?_
    unfold gL at *
    rw [un_up (by omega) (by omega), up_ne (by omega), up_ne (by omega), up_ne (by omega), up_ne (by omega)]
    exact q
theorem LeOk_re {s : SS} {p e : Nat} (hs : LeOk s p) (hh : s (92 + 14 * p) ≠ 0) (he : e ≤ un s p) : LeOk (upd s (93 + 14 * p + 11) (nI e)) p := by
  rcases hs with q | q
  · exact absurd q.1 hh
  · refine Or.inr ?_
    unfold gL at *
    rw [un_up (by omega) (by omega), up_ne (by omega), up_ne (by omega), up_ne (by omega), up_eq]
    exact ⟨q.1, q.2.1, q.2.2.1, e, Nat.zero_le _, by omega, rfl⟩
def freeK (k : Nat) : Prop := (∀ c, c < 4 → ∀ j, j < 5 → 64 + 7 * c + j ≠ k) ∧ (∀ p, p < 24 → 92 + 14 * p ≠ k ∧ 93 + 14 * p + 2 ≠ k ∧ 93 + 14 * p + 5 ≠ k ∧ 93 + 14 * p + 9 ≠ k ∧ 93 + 14 * p + 11 ≠ k) ∧ k ≠ 428 ∧ k ≠ 429 ∧ k ≠ 453
theorem Inv_free {s : SS} {k : Nat} {x : Int32} (h : Inv s) (hk : freeK k) : Inv (upd s k x) := by
  refine ⟨fun c hc => ChOk_up (hk.1 c hc) (h.1 c hc), fun p hp => LeOk_up (hk.2.1 p hp) (h.2.1 p hp), ?_, ?_⟩
  · rw [up_ne (Ne.symm hk.2.2.1), up_ne (Ne.symm hk.2.2.2.1)]; exact h.2.2.1
  · rw [up_ne (Ne.symm hk.2.2.2.2)]; exact h.2.2.2
theorem fr_mem {k : Nat} (h : k < 64) : freeK k := ⟨fun c hc j hj => by omega, fun p hp => by omega, by omega, by omega, by omega⟩
theorem fr_ch {c j : Nat} (hc : c < 4) (hj : 5 ≤ j) (hj2 : j < 7) : freeK (64 + 7 * c + j) := ⟨fun d hd i hi => by omega, fun p hp => by omega, by omega, by omega, by omega⟩
theorem fr_le {p j : Nat} (hp : p < 24) (hj : j < 13) (h : j ≠ 2 ∧ j ≠ 5 ∧ j ≠ 9 ∧ j ≠ 11) : freeK (93 + 14 * p + j) := ⟨fun d hd i hi => by omega, fun q hq => by omega, by omega, by omega, by omega⟩
theorem fr_454 : freeK 454 := ⟨fun d hd i hi => by omega, fun q hq => by omega, by omega, by omega, by omega⟩
theorem Inv_L {s : SS} {p j : Nat} {x : Int32} (h : Inv s) (hp : p < 24) (hj : j < 13) (hn : LeOk (upd s (93 + 14 * p + j) x) p) : Inv (upd s (93 + 14 * p + j) x) := by
  refine ⟨fun c hc => ChOk_up (fun i hi => by omega) (h.1 c hc), fun q hq => ?_, ?_, ?_⟩
  · by_cases e : q = p
    · subst e; exact hn
    · exact LeOk_up (by omega) (h.2.1 q hq)
  · rw [up_ne (by omega), up_ne (by omega)]; exact h.2.2.1
  · rw [up_ne (by omega)]; exact h.2.2.2
theorem Inv_C {s : SS} {c j : Nat} {x : Int32} (h : Inv s) (hc : c < 4) (hj : j < 7) (hn : ChOk (upd s (64 + 7 * c + j) x) c) : Inv (upd s (64 + 7 * c + j) x) := by
  refine ⟨fun d hd => ?_, fun q hq => LeOk_up (by omega) (h.2.1 q hq), ?_, ?_⟩
  · by_cases e : d = c
    · subst e; exact hn
    · exact ChOk_up (fun i hi => by omega) (h.1 d hd)
  · rw [up_ne (by omega), up_ne (by omega)]; exact h.2.2.1
  · rw [up_ne (by omega)]; exact h.2.2.2
theorem Inv_l {s : SS} {c : Nat} (h : Inv s) (hc : c < 4) : Inv (upd s 453 (nI c)) := by
  refine ⟨fun d hd => ChOk_up (fun i hi => by omega) (h.1 d hd), fun q hq => LeOk_up (by omega) (h.2.1 q hq), ?_, ?_⟩
  · rw [up_ne (by omega), up_ne (by omega)]; exact h.2.2.1
  · rw [up_eq]; exact ⟨c, Nat.zero_le _, hc, rfl⟩
theorem Inv_q0 {s : SS} (h : Inv s) : Inv (upd s 428 0) := by
  refine ⟨fun d hd => ChOk_up (fun i hi => by omega) (h.1 d hd), fun q hq => LeOk_up (by omega) (h.2.1 q hq), Or.inl up_eq, ?_⟩
  rw [up_ne (by omega)]; exact h.2.2.2
theorem Inv_q1 {s : SS} {p : Nat} (h : Inv s) (hp : p < 24) : Inv (upd (upd s 429 (nI p)) 428 1) := by
  refine ⟨fun d hd => ChOk_up (fun i hi => by omega) (ChOk_up (fun i hi => by omega) (h.1 d hd)), fun q hq => LeOk_up (by omega) (LeOk_up (by omega) (h.2.1 q hq)), Or.inr ⟨up_eq, ?_⟩, ?_⟩
  · rw [up_ne (by omega), up_eq]; exact ⟨p, Nat.zero_le _, hp, rfl⟩
  · rw [up_ne (by omega), up_ne (by omega)]; exact h.2.2.2
theorem Inv_h {s : SS} {c i : Nat} (h : Inv s) (hc : c < 4) (hi : i < 6) : Inv (upd s (64 + 7 * c + 4) (nI i)) := by
  refine Inv_C h hc (by decide) ?_
  have q := h.1 c hc
  unfold ChOk gC at *
  rw [up_ne (by omega), up_ne (by omega), up_ne (by omega), up_ne (by omega), up_eq]
  exact ⟨q.1, q.2.1, q.2.2.1, q.2.2.2.1, i, Nat.zero_le _, hi, rfl⟩
/-- written back -/
def wb1 (s : SS) (p : Nat) : SS := upd (upd (upd s (93 + 14 * p + 9) 0) (93 + 14 * p + 10) 1) (93 + 14 * p + 12) 0
def wb2 (s : SS) (p : Nat) : SS := if gL (wb1 s p) p 8 = 0 then upd (wb1 s p) (64 + 7 * (p / 6) + 5) (gC (wb1 s p) (p / 6) 5 + 1) else wb1 s p
def wbF (s : SS) (p : Nat) : SS := upd (wb2 s p) 428 0
theorem wb1_ne {s : SS} {p k : Nat} (h : k ≠ 93 + 14 * p + 9 ∧ k ≠ 93 + 14 * p + 10 ∧ k ≠ 93 + 14 * p + 12) : wb1 s p k = s k := by unfold wb1; rw [up_ne h.2.2, up_ne h.2.1, up_ne h.1]
theorem wb2_ne {s : SS} {p k : Nat} (h : k ≠ 93 + 14 * p + 9 ∧ k ≠ 93 + 14 * p + 10 ∧ k ≠ 93 + 14 * p + 12 ∧ k ≠ 64 + 7 * (p / 6) + 5) : wb2 s p k = s k := by
  unfold wb2
  split
  · rw [up_ne h.2.2.2]; exact wb1_ne ⟨h.1, h.2.1, h.2.2.1⟩
  · exact wb1_ne ⟨h.1, h.2.1, h.2.2.1⟩
theorem Inv_wb1 {s : SS} {p : Nat} (h : Inv s) (hp : p < 24) : Inv (wb1 s p) := by
  unfold wb1
  refine Inv_free (Inv_free ?_ (fr_le hp (by decide) (by decide))) (fr_le hp (by decide) (by decide))
  refine Inv_L h hp (by decide) ?_
  rcases h.2.1 p hp with q | q
  · refine Or.inl ?_
    unfold gL at *
    rw [up_ne (by omega), up_ne (by omega), up_eq]
    exact ⟨q.1, q.2.1, rfl⟩
  · exact LeOk_ow (Or.inr q) (by rw [q.1]; decide)
theorem Inv_wb2 {s : SS} {p : Nat} (h : Inv s) (hp : p < 24) : Inv (wb2 s p) := by
  unfold wb2
  split
  · exact Inv_free (Inv_wb1 h hp) (fr_ch (by omega) (by decide) (by decide))
  · exact Inv_wb1 h hp
theorem Inv_wb {s : SS} {p : Nat} (h : Inv s) (hp : p < 24) : Inv (wbF s p) := Inv_q0 (Inv_wb2 h hp)
/-- bytes carried -/
def caF (p : Nat) : Nat → Nat → SS → SS
  | 0, _, s => s
  | m + 1, k, s => caF p m (k + 1) (upd s (ad s p k 1) (s (ad s p k 0)))
theorem caF_ne {p : Nat} : ∀ (m k : Nat) (s : SS) {j : Nat}, 64 ≤ j → caF p m k s j = s j
  | 0, _, _, _, _ => rfl
  | m + 1, k, s, j, h => by
    show caF p m (k + 1) _ j = s j
    rw [caF_ne m (k + 1) _ h, up_ne (by have := ad_lt s p k 1; omega)]
theorem Inv_ca {p : Nat} : ∀ (m k : Nat) {s : SS}, Inv s → Inv (caF p m k s)
  | 0, _, _, h => h
  | m + 1, k, s, h => Inv_ca m (k + 1) (Inv_free h (fr_mem (ad_lt s p k 1)))
def gr1 (s : SS) (c : Nat) : SS := upd (upd s 453 (nI c)) (64 + 7 * c + 6) (gC (upd s 453 (nI c)) c 6 + 1)
def mny (s : SS) (c : Nat) : Nat := min (bu s c) (re s (pl s c))
def gr2 (b : Bool) (s : SS) (c : Nat) : SS := if b then caF (pl s c) (mny s c) (un s (pl s c) - re s (pl s c)) (gr1 s c) else gr1 s c
def gr3 (b : Bool) (s : SS) (c : Nat) : SS := upd (gr2 b s c) (93 + 14 * pl s c + 11) (nI (re s (pl s c) - mny s c))
def wtF (s : SS) (c p : Nat) : SS := upd (upd (upd (upd s (93 + 14 * p + 12) 1) 429 (nI p)) 428 1) (64 + 7 * c + 4) (nI ((hd s c + 1) % 6))
def grF (b : Bool) (s : SS) (c : Nat) : SS := if re s (pl s c) = mny s c then wtF (gr3 b s c) c (pl s c) else gr3 b s c
theorem gr1_ne {s : SS} {c k : Nat} (h : k ≠ 453 ∧ k ≠ 64 + 7 * c + 6) : gr1 s c k = s k := by unfold gr1; rw [up_ne h.2, up_ne h.1]
theorem gr2_ne {b : Bool} {s : SS} {c k : Nat} (h : k ≠ 453 ∧ k ≠ 64 + 7 * c + 6) (h2 : 64 ≤ k) : gr2 b s c k = s k := by
  unfold gr2
  split
  · rw [caF_ne _ _ _ h2]; exact gr1_ne h
  · exact gr1_ne h
theorem gr3_ne {b : Bool} {s : SS} {c k : Nat} (h : k ≠ 453 ∧ k ≠ 64 + 7 * c + 6 ∧ k ≠ 93 + 14 * pl s c + 11) (h2 : 64 ≤ k) : gr3 b s c k = s k := by
  unfold gr3
  rw [up_ne h.2.2]; exact gr2_ne ⟨h.1, h.2.1⟩ h2
theorem Inv_gr1 {s : SS} {c : Nat} (h : Inv s) (hc : c < 4) : Inv (gr1 s c) := Inv_free (Inv_l h hc) (fr_ch hc (by decide) (by decide))
theorem Inv_gr2 {b : Bool} {s : SS} {c : Nat} (h : Inv s) (hc : c < 4) : Inv (gr2 b s c) := by
  unfold gr2
  split
  · exact Inv_ca _ _ (Inv_gr1 h hc)
  · exact Inv_gr1 h hc
theorem un_of {s t : SS} {p : Nat} (h : ∀ k, 93 ≤ k → k < 428 → t k = s k) (hp : p < 24) : un t p = un s p := by unfold un nn rr gL; rw [h _ (by omega) (by omega), h _ (by omega) (by omega)]
theorem Inv_gr3 {b : Bool} {s : SS} {c : Nat} (h : Inv s) (hc : c < 4) (ht : tc s (pl s c) = true) : Inv (gr3 b s c) := by
  have hp := h.pl_ hc
  have hle := h.le hp (h.tc_ hp ht)
  have h2 : ∀ k, 93 ≤ k → k < 428 → gr2 b s c k = s k := fun k h1 h2 => gr2_ne ⟨by omega, by omega⟩ (by omega)
  refine Inv_L (Inv_gr2 h hc) hp (by decide) (LeOk_re ((Inv_gr2 h hc).2.1 _ hp) ?_ ?_)
  · rw [gr2_ne ⟨by omega, by omega⟩ (by omega), hle.1]; decide
  · rw [un_of h2 hp]; have := hle.2.2.2.2; omega
theorem hd_gr3 {b : Bool} {s : SS} {c : Nat} (hc : c < 4) : hd (gr3 b s c) c = hd s c := by
  unfold hd gC; rw [gr3_ne ⟨by omega, by omega, by omega⟩ (by omega)]
theorem Inv_wt {s : SS} {c p : Nat} (h : Inv s) (hc : c < 4) (hp : p < 24) : Inv (wtF s c p) := by
  unfold wtF
  exact Inv_h (Inv_q1 (Inv_free h (fr_le hp (by decide) (by decide))) hp) hc (Nat.mod_lt _ (by decide))
theorem Inv_gr {b : Bool} {s : SS} {c : Nat} (h : Inv s) (hc : c < 4) (ht : tc s (pl s c) = true) : Inv (grF b s c) := by
  unfold grF
  split
  · exact Inv_wt (Inv_gr3 h hc ht) hc (h.pl_ hc)
  · exact Inv_gr3 h hc ht
/-- a tick -/
def tk0 (s : SS) : SS := upd s 454 (s 454 + 1)
def tk1 (s : SS) : SS := if s 428 = 0 then s else wbF s (qu s)
def tk (s : SS) : SS := tk1 (tk0 s)
def tkW (s : SS) : Option Nat := who (tk s)
def tkF (b : Bool) (s : SS) : SS := match tkW s with
  | none => tk s
  | some c => grF b (tk s) c
theorem Inv.qu_ {s : SS} (h : Inv s) (hq : ¬ s 428 = 0) : s 428 = 1 ∧ s 429 = nI (qu s) ∧ qu s < 24 := by
  have q := h.2.2.1.resolve_left hq
  have := q.2.to (by decide)
  exact ⟨q.1, this.1, this.2.2⟩
theorem Inv_tk0 {s : SS} (h : Inv s) : Inv (tk0 s) := Inv_free h fr_454
theorem Inv_tk1 {s : SS} (h : Inv s) : Inv (tk1 s) := by
  unfold tk1
  split
  · exact h
  · rename_i q; exact Inv_wb h (h.qu_ q).2.2
theorem Inv_tk {s : SS} (h : Inv s) : Inv (tk s) := Inv_tk1 (Inv_tk0 h)
theorem tk_q {s : SS} : tk s 428 = 0 := by
  unfold tk tk1
  split
  · assumption
  · exact up_eq
theorem who_lt {s : SS} {c : Nat} (h : who s = some c) : c < 4 := whoN_lt s 4 c h
theorem who_tc {s : SS} {c : Nat} (h : who s = some c) : tc s (pl s c) = true := by
  have := whoN_rdy s 4 c h
  unfold rdy at this
  simp only [Bool.and_eq_true] at this
  exact this.1
theorem Inv_tF {b : Bool} {s : SS} (h : Inv s) : Inv (tkF b s) := by
  unfold tkF
  split
  · exact Inv_tk h
  · rename_i c q; exact Inv_gr (Inv_tk h) (who_lt q) (who_tc q)
end
section
/-! more of what is asked and done -/
theorem wb2_y {s : SS} {p : Nat} (h : gL (wb1 s p) p 8 = 0) : wb2 s p = upd (wb1 s p) (64 + 7 * (p / 6) + 5) (gC (wb1 s p) (p / 6) 5 + 1) := if_pos h
theorem wb2_n {s : SS} {p : Nat} (h : ¬ gL (wb1 s p) p 8 = 0) : wb2 s p = wb1 s p := if_neg h
theorem gr2_f {b : Bool} {s : SS} {c : Nat} (h : b = false) : gr2 b s c = gr1 s c := by rw [h]; rfl
theorem gr2_t {b : Bool} {s : SS} {c : Nat} (h : b = true) : gr2 b s c = caF (pl s c) (mny s c) (un s (pl s c) - re s (pl s c)) (gr1 s c) := by rw [h]; rfl
theorem grF_y {b : Bool} {s : SS} {c : Nat} (h : re s (pl s c) = mny s c) : grF b s c = wtF (gr3 b s c) c (pl s c) := if_pos h
theorem grF_n {b : Bool} {s : SS} {c : Nat} (h : ¬ re s (pl s c) = mny s c) : grF b s c = gr3 b s c := if_neg h
theorem tk_n {s : SS} (h : tk0 s 428 = 0) : tk s = tk0 s := if_pos h
theorem tk_y {s : SS} (h : ¬ tk0 s 428 = 0) : tk s = wbF (tk0 s) (qu (tk0 s)) := if_neg h
theorem tkF_n {b : Bool} {s : SS} (h : tkW s = none) : tkF b s = tk s := by unfold tkF; rw [h]
theorem tkF_s {b : Bool} {s : SS} {c : Nat} (h : tkW s = some c) : tkF b s = grF b (tk s) c := by unfold tkF; rw [h]
theorem q_le {s : SS} (h : Inv s) (hq : s 428 ≤ 0) : s 428 = 0 := by
  rcases h.2.2.1 with q | q
  · exact q
  · rw [q.1] at hq; exact absurd hq (by decide)
theorem q_gt {s : SS} (hq : ¬ s 428 ≤ 0) : ¬ s 428 = 0 := fun e => hq (by rw [e]; decide)
def waF (s : SS) (c : Nat) : SS := if s 428 = 0 then s else if qu s / 6 = c then wbF s (qu s) else s
theorem waF_0 {s : SS} {c : Nat} (h : s 428 = 0) : waF s c = s := if_pos h
theorem waF_y {s : SS} {c : Nat} (h : ¬ s 428 = 0) (h2 : qu s / 6 = c) : waF s c = wbF s (qu s) := by unfold waF; rw [if_neg h, if_pos h2]
theorem waF_n {s : SS} {c : Nat} (h : ¬ s 428 = 0) (h2 : ¬ qu s / 6 = c) : waF s c = s := by unfold waF; rw [if_neg h, if_neg h2]
theorem Inv_wa {s : SS} {c : Nat} (h : Inv s) : Inv (waF s c) := by
  unfold waF
  split
  · exact h
  · rename_i q
    split
    · exact Inv_wb h (h.qu_ q).2.2
    · exact h
def ca1 (s : SS) (p : Nat) : SS := upd (upd s (93 + 14 * p + 9) 0) (93 + 14 * p + 10) 2
def caN : Nat → SS → Nat → Nat → Int32 → SS × Nat × Int32
  | 0, s, _, h, a => (s, h, a)
  | f + 1, s, c, h, a => if gL (ca1 s (c * 6 + h)) (c * 6 + h) 8 = 1 ∧ eng (ca1 s (c * 6 + h)) (c * 6 + (h + 1) % 6) = true then caN f (ca1 s (c * 6 + h)) c ((h + 1) % 6) (a + gL s (c * 6 + h) 11) else (ca1 s (c * 6 + h), (h + 1) % 6, a + gL s (c * 6 + h) 11)
def cnS (s : SS) (c : Nat) : SS × Nat × Int32 := caN 6 (waF s c) c (hd (waF s c) c) 0
def cnF (s : SS) (c : Nat) : SS := upd (cnS s c).1 (64 + 7 * c + 4) (nI (cnS s c).2.1)
def cnA (s : SS) (c : Nat) : Int32 := (cnS s c).2.2
theorem caN_y {f : Nat} {s : SS} {c h : Nat} {a : Int32} (h1 : gL (ca1 s (c * 6 + h)) (c * 6 + h) 8 = 1) (h2 : eng (ca1 s (c * 6 + h)) (c * 6 + (h + 1) % 6) = true) : caN (f + 1) s c h a = caN f (ca1 s (c * 6 + h)) c ((h + 1) % 6) (a + gL s (c * 6 + h) 11) := if_pos ⟨h1, h2⟩
theorem caN_n {f : Nat} {s : SS} {c h : Nat} {a : Int32} (h1 : ¬ (gL (ca1 s (c * 6 + h)) (c * 6 + h) 8 = 1 ∧ eng (ca1 s (c * 6 + h)) (c * 6 + (h + 1) % 6) = true)) : caN (f + 1) s c h a = (ca1 s (c * 6 + h), (h + 1) % 6, a + gL s (c * 6 + h) 11) := if_neg h1
def wbs (s : SS) (p : Nat) : Nat → Int64
  | 0 => 0
  | i + 1 => wbs s p i ||| ((1 : Int64) <<< ((nI (ad s p i 1)).toInt64 &&& 63))
def ucP (s : SS) (p a : Nat) : Nat → Bool := fun i => decide (ad s p (un s p - re s p + i) 1 = a)
def ucF (s : SS) (p a : Nat) : Nat := cnt (ucP s p a) (re s p)
def lnd (s : SS) (a : Nat) : Nat → Nat
  | 0 => 0
  | i + 1 => lnd s a i + (if tc s i then ucF s i a else 0)
theorem lnd_t {s : SS} {a i : Nat} (h : tc s i = true) : lnd s a (i + 1) = lnd s a i + ucF s i a := by show _ + (if tc s i then _ else _) = _; rw [if_pos h]
theorem lnd_f {s : SS} {a i : Nat} (h : tc s i = false) : lnd s a (i + 1) = lnd s a i := by show _ + (if tc s i then _ else _) = _; rw [h]; rfl
end
section
section EN3
variable {D : DX}
set_option maxHeartbeats 4000000 in
set_option maxRecDepth 100000 in
theorem c_X0_writeBack (E : Nat → Nat) (s : SS) (p : Nat) (hp : p < 24) (h8 : s 428 = 1) (h9 : s 429 = nI p) : Ct D yX0_writeBack cX0_writeBack 4 none ({ frames := 1, cells := 0, slots := 0, locals := 23 } : Room) [.ref (E 0), .int (nI 0)] (EW D E s) (fun v_ u_ => v_ = none ∧ u_ = EW D E (wbF s p)) := by
  refine ct_of (by decide) (Nat.le_of_ble_eq_true rfl) (lv0 := [(0, .ref (E 0)), (1, .int (nI 0))]) rfl (fun Γ => ?_)
  refine j_aload_n dX0_writeBack_0 0 rfl ?_
  refine g_X0_21 rfl dX0_writeBack_1 0 rfl rfl ?_
  refine j_iload_n dX0_writeBack_4 1 rfl ?_
  refine j_iald (v := nI p) dX0_writeBack_5 4 0 rfl (rfl) (by omega) (Nat.le_of_ble_eq_true rfl) (Eq.trans (vQ_at (by decide)) h9) ?_
  refine j_istore_n (lv2 := [(0, .ref (E 0)), (1, .int (nI 0)), (2, .int (nI p))]) dX0_writeBack_6 (by decide) [1, 2, 0] rfl ?_
  refine j_aload_n dX0_writeBack_7 0 rfl ?_
  refine j_iload_n dX0_writeBack_8 2 rfl ?_
  refine j_bipush (v := nI 9) dX0_writeBack_9 (by decide) ?_
  refine j_iconst (v := nI 0) dX0_writeBack_11 (by decide) ?_
  refine j_V (w2 := EW D E (upd s (93 + 14 * p + 9) (nI 0))) (st2 := []) (c_X0_setLetter E s p 9 (nI 0) (by omega) (by omega)) rfl cw_X0_95 dX0_writeBack_12 [] rfl [0, 1, 2, 3, 4] rfl rfl rfl 0 ?_ ⟨rfl, ⟨Nat.le_of_ble_eq_true rfl, Nat.le_of_ble_eq_true rfl⟩, ⟨rfl, rfl⟩, ⟨Nat.le_of_ble_eq_true rfl, Nat.le_of_ble_eq_true rfl⟩, Nat.le_of_ble_eq_true rfl, rfl, rfl⟩ rfl rfl rfl
  refine j_aload_n dX0_writeBack_15 0 rfl ?_
  refine j_iload_n dX0_writeBack_16 2 rfl ?_
  refine j_bipush (v := nI 10) dX0_writeBack_17 (by decide) ?_
  refine j_iconst (v := nI 1) dX0_writeBack_19 (by decide) ?_
  refine j_V (w2 := EW D E (upd (upd s (93 + 14 * p + 9) (nI 0)) (93 + 14 * p + 10) (nI 1))) (st2 := []) (c_X0_setLetter E (upd s (93 + 14 * p + 9) (nI 0)) p 10 (nI 1) (by omega) (by omega)) rfl cw_X0_95 dX0_writeBack_20 [] rfl [0, 1, 2, 3, 4] rfl rfl rfl 0 ?_ ⟨rfl, ⟨Nat.le_of_ble_eq_true rfl, Nat.le_of_ble_eq_true rfl⟩, ⟨rfl, rfl⟩, ⟨Nat.le_of_ble_eq_true rfl, Nat.le_of_ble_eq_true rfl⟩, Nat.le_of_ble_eq_true rfl, rfl, rfl⟩ rfl rfl rfl
  refine j_aload_n dX0_writeBack_23 0 rfl ?_
  refine j_iload_n dX0_writeBack_24 2 rfl ?_
  refine j_bipush (v := nI 12) dX0_writeBack_25 (by decide) ?_
  refine j_iconst (v := nI 0) dX0_writeBack_27 (by decide) ?_
  refine j_V (w2 := EW D E (upd (upd (upd s (93 + 14 * p + 9) (nI 0)) (93 + 14 * p + 10) (nI 1)) (93 + 14 * p + 12) (nI 0))) (st2 := []) (c_X0_setLetter E (upd (upd s (93 + 14 * p + 9) (nI 0)) (93 + 14 * p + 10) (nI 1)) p 12 (nI 0) (by omega) (by omega)) rfl cw_X0_95 dX0_writeBack_28 [] rfl [0, 1, 2, 3, 4] rfl rfl rfl 0 ?_ ⟨rfl, ⟨Nat.le_of_ble_eq_true rfl, Nat.le_of_ble_eq_true rfl⟩, ⟨rfl, rfl⟩, ⟨Nat.le_of_ble_eq_true rfl, Nat.le_of_ble_eq_true rfl⟩, Nat.le_of_ble_eq_true rfl, rfl, rfl⟩ rfl rfl rfl
  refine j_w (w2 := EW D E (wb1 s p)) (rfl) ?_
  refine j_aload_n dX0_writeBack_31 0 rfl ?_
  refine j_iload_n dX0_writeBack_32 2 rfl ?_
  refine j_bipush (v := nI 8) dX0_writeBack_33 (by decide) ?_
  refine j_V (w2 := EW D E (wb1 s p)) (st2 := [.int (gL (wb1 s p) p 8)]) (c_X0_ofLetter E (wb1 s p) p 8 (by omega) (by omega)) rfl cw_X0_40 dX0_writeBack_35 [] rfl [0, 1, 2, 3, 4] rfl rfl rfl 0 ?_ ⟨rfl, ⟨Nat.le_of_ble_eq_true rfl, Nat.le_of_ble_eq_true rfl⟩, ⟨rfl, rfl⟩, ⟨Nat.le_of_ble_eq_true rfl, Nat.le_of_ble_eq_true rfl⟩, Nat.le_of_ble_eq_true rfl, rfl, rfl⟩ rfl rfl rfl
  refine j_if_ne (tgt := 50) dX0_writeBack_38 (by decide) (fun h38 => ?_) (fun h38 => ?_)
  · skip
    refine j_w (w2 := EW D E (wb2 s p)) (by rw [wb2_n h38]) ?_
    refine j_aload_n dX0_writeBack_50 0 rfl ?_
    refine j_dup dX0_writeBack_51 rfl ?_
    refine g_X0_24 rfl dX0_writeBack_52 0 rfl rfl ?_
    refine j_topi (v := nI 1) ((wb2_ne ⟨by omega, by omega, by omega, by omega⟩).trans h8) ?_
    refine j_iconst (v := nI 1) dX0_writeBack_55 (by decide) ?_
    refine j_isub (v := nI (1 - 1)) dX0_writeBack_56 (pk_sub (by omega)) ?_
    refine p_X0_24 (w2 := EW D E (wbF s p)) rfl dX0_writeBack_57 0 rfl (Nat.le_of_ble_eq_true rfl) (EW_q (s := wb2 s p) (x := nI (1 - 1))) ?_
    refine j_iload_n dX0_writeBack_60 1 rfl ?_
    refine j_istore_n (lv2 := [(0, .ref (E 0)), (1, .int (nI 0)), (2, .int (nI p)), (3, .int (nI 0))]) dX0_writeBack_61 (by decide) [1, 2, 3, 0] rfl ?_
    refine j_iload_n dX0_writeBack_62 3 rfl ?_
    refine j_aload_n dX0_writeBack_63 0 rfl ?_
    refine g_X0_24 rfl dX0_writeBack_64 0 rfl rfl ?_
    refine j_topi (v := nI 0) (up_eq) ?_
    refine j_icmp_ge_N (tgt := 90) dX0_writeBack_67 (by decide) ⟨by omega, by omega⟩ (fun h67 => ?_) (fun h67 => absurd (Nat.le_refl 0) h67)
    exact j_vret dX0_writeBack_90 ⟨rfl, rfl⟩ ⟨rfl, rfl⟩
  · skip
    refine j_aload_n dX0_writeBack_41 0 rfl ?_
    refine j_iload_n dX0_writeBack_42 2 rfl ?_
    refine j_bipush (v := nI 6) dX0_writeBack_43 (by decide) ?_
    refine j_idiv (v := nI (p / 6)) dX0_writeBack_45 (by decide) (pk_div (by omega) (by omega) (by omega)) ?_
    refine j_iconst (v := nI 5) dX0_writeBack_46 (by decide) ?_
    refine j_V (w2 := EW D E (upd (wb1 s p) (64 + 7 * (p / 6) + 5) (gC (wb1 s p) (p / 6) 5 + 1))) (st2 := []) (c_X0_addOneTo E (wb1 s p) (p / 6) 5 (by omega) (by omega)) rfl cw_X0_113 dX0_writeBack_47 [] rfl [0, 1, 2, 3, 4] rfl rfl rfl 0 ?_ ⟨rfl, ⟨Nat.le_of_ble_eq_true rfl, Nat.le_of_ble_eq_true rfl⟩, ⟨rfl, rfl⟩, ⟨Nat.le_of_ble_eq_true rfl, Nat.le_of_ble_eq_true rfl⟩, Nat.le_of_ble_eq_true rfl, rfl, rfl⟩ rfl rfl rfl
    refine j_w (w2 := EW D E (wb2 s p)) (by rw [wb2_y h38]) ?_
    refine j_aload_n dX0_writeBack_50 0 rfl ?_
    refine j_dup dX0_writeBack_51 rfl ?_
    refine g_X0_24 rfl dX0_writeBack_52 0 rfl rfl ?_
    refine j_topi (v := nI 1) ((wb2_ne ⟨by omega, by omega, by omega, by omega⟩).trans h8) ?_
    refine j_iconst (v := nI 1) dX0_writeBack_55 (by decide) ?_
    refine j_isub (v := nI (1 - 1)) dX0_writeBack_56 (pk_sub (by omega)) ?_
    refine p_X0_24 (w2 := EW D E (wbF s p)) rfl dX0_writeBack_57 0 rfl (Nat.le_of_ble_eq_true rfl) (EW_q (s := wb2 s p) (x := nI (1 - 1))) ?_
    refine j_iload_n dX0_writeBack_60 1 rfl ?_
    refine j_istore_n (lv2 := [(0, .ref (E 0)), (1, .int (nI 0)), (2, .int (nI p)), (3, .int (nI 0))]) dX0_writeBack_61 (by decide) [1, 2, 3, 0] rfl ?_
    refine j_iload_n dX0_writeBack_62 3 rfl ?_
    refine j_aload_n dX0_writeBack_63 0 rfl ?_
    refine g_X0_24 rfl dX0_writeBack_64 0 rfl rfl ?_
    refine j_topi (v := nI 0) (up_eq) ?_
    refine j_icmp_ge_N (tgt := 90) dX0_writeBack_67 (by decide) ⟨by omega, by omega⟩ (fun h67 => ?_) (fun h67 => absurd (Nat.le_refl 0) h67)
    exact j_vret dX0_writeBack_90 ⟨rfl, rfl⟩ ⟨rfl, rfl⟩

set_option maxHeartbeats 4000000 in
set_option maxRecDepth 100000 in
theorem c_X0_letWait (E : Nat → Nat) (s : SS) (hI : Inv s) (c p : Nat) (hc : c < 4) (hp : p < 24) (hq : s 428 = 0) : Ct D yX0_letWait cX0_letWait 3 none ({ frames := 1, cells := 0, slots := 0, locals := 23 } : Room) [.ref (E 0), .int (nI c), .int (nI p)] (EW D E s) (fun v_ u_ => v_ = none ∧ u_ = EW D E (wtF s c p)) := by
  have hh := (hI.hd_ hc).2
  refine ct_of (by decide) (Nat.le_of_ble_eq_true rfl) (lv0 := [(0, .ref (E 0)), (1, .int (nI c)), (2, .int (nI p))]) rfl (fun Γ => ?_)
  refine j_aload_n dX0_letWait_0 0 rfl ?_
  refine j_iload_n dX0_letWait_1 2 rfl ?_
  refine j_bipush (v := nI 12) dX0_letWait_2 (by decide) ?_
  refine j_iconst (v := nI 1) dX0_letWait_4 (by decide) ?_
  refine j_V (w2 := EW D E (upd s (93 + 14 * p + 12) (nI 1))) (st2 := []) (c_X0_setLetter E s p 12 (nI 1) (by omega) (by omega)) rfl cw_X0_95 dX0_letWait_5 [] rfl [0, 1, 2, 3, 4] rfl rfl rfl 0 ?_ ⟨rfl, ⟨Nat.le_of_ble_eq_true rfl, Nat.le_of_ble_eq_true rfl⟩, ⟨rfl, rfl⟩, ⟨Nat.le_of_ble_eq_true rfl, Nat.le_of_ble_eq_true rfl⟩, Nat.le_of_ble_eq_true rfl, rfl, rfl⟩ rfl rfl rfl
  refine j_aload_n dX0_letWait_8 0 rfl ?_
  refine g_X0_24 rfl dX0_letWait_9 0 rfl rfl ?_
  refine j_topi (v := nI 0) ((up_ne (by omega)).trans hq) ?_
  refine j_bipush (v := nI 24) dX0_letWait_12 (by decide) ?_
  refine j_icmp_ge_N (tgt := 37) dX0_letWait_14 (by decide) ⟨by omega, by omega⟩ (fun h14 => absurd h14 (by omega)) (fun h14 => ?_)
  refine j_aload_n dX0_letWait_17 0 rfl ?_
  refine g_X0_21 rfl dX0_letWait_18 0 rfl rfl ?_
  refine j_aload_n dX0_letWait_21 0 rfl ?_
  refine g_X0_24 rfl dX0_letWait_22 0 rfl rfl ?_
  refine j_topi (v := nI 0) ((up_ne (by omega)).trans hq) ?_
  refine j_iload_n dX0_letWait_25 2 rfl ?_
  refine j_iast (w2 := EW D E (upd (upd s (93 + 14 * p + 12) (nI 1)) 429 (nI p))) dX0_letWait_26 4 0 rfl (rfl) (by omega) (Nat.le_of_ble_eq_true rfl) (EW_Q (k := 0) (by decide)) ?_
  refine j_aload_n dX0_letWait_27 0 rfl ?_
  refine j_dup dX0_letWait_28 rfl ?_
  refine g_X0_24 rfl dX0_letWait_29 0 rfl rfl ?_
  refine j_topi (v := nI 0) ((up_ne (by omega)).trans ((up_ne (by omega)).trans hq)) ?_
  refine j_iconst (v := nI 1) dX0_letWait_32 (by decide) ?_
  refine j_iadd (v := nI (0 + 1)) dX0_letWait_33 (nI_add _ _) ?_
  refine p_X0_24 (w2 := EW D E (upd (upd (upd s (93 + 14 * p + 12) (nI 1)) 429 (nI p)) 428 (nI (0 + 1)))) rfl dX0_letWait_34 0 rfl (Nat.le_of_ble_eq_true rfl) (EW_q) ?_
  refine j_aload_n dX0_letWait_37 0 rfl ?_
  refine j_iload_n dX0_letWait_38 1 rfl ?_
  refine j_iconst (v := nI 4) dX0_letWait_39 (by decide) ?_
  refine j_aload_n dX0_letWait_40 0 rfl ?_
  refine j_iload_n dX0_letWait_41 1 rfl ?_
  refine j_iconst (v := nI 4) dX0_letWait_42 (by decide) ?_
  refine j_V (w2 := EW D E (upd (upd (upd s (93 + 14 * p + 12) (nI 1)) 429 (nI p)) 428 (nI (0 + 1)))) (st2 := [.int (gC (upd (upd (upd s (93 + 14 * p + 12) (nI 1)) 429 (nI p)) 428 (nI (0 + 1))) c 4), .int (nI 4), .int (nI c), .ref (E 0)]) (c_X0_ofChannel E (upd (upd (upd s (93 + 14 * p + 12) (nI 1)) 429 (nI p)) 428 (nI (0 + 1))) c 4 (by omega) (by omega)) rfl cw_X0_73 dX0_letWait_43 [.int (nI 4), .int (nI c), .ref (E 0)] rfl [0, 1, 2, 3, 4] rfl rfl rfl 0 ?_ ⟨rfl, ⟨Nat.le_of_ble_eq_true rfl, Nat.le_of_ble_eq_true rfl⟩, ⟨rfl, rfl⟩, ⟨Nat.le_of_ble_eq_true rfl, Nat.le_of_ble_eq_true rfl⟩, Nat.le_of_ble_eq_true rfl, rfl, rfl⟩ rfl rfl rfl
  refine j_topi (v := nI (hd s c)) ((up_ne (by omega)).trans ((up_ne (by omega)).trans ((up_ne (by omega)).trans (hI.hd_ hc).1))) ?_
  refine j_S (w2 := EW D E (upd (upd (upd s (93 + 14 * p + 12) (nI 1)) 429 (nI p)) 428 (nI (0 + 1)))) (st2 := [.int (nI ((hd s c + 1) % 6)), .int (nI 4), .int (nI c), .ref (E 0)]) (c_X0_slotBehind (hd s c) (by omega)) rfl cw_X0_98 dX0_letWait_46 [.int (nI 4), .int (nI c), .ref (E 0)] rfl [] rfl rfl rfl ?_ ⟨rfl, ⟨Nat.le_of_ble_eq_true rfl, Nat.le_of_ble_eq_true rfl⟩, ⟨rfl, rfl⟩, ⟨Nat.le_of_ble_eq_true rfl, Nat.le_of_ble_eq_true rfl⟩, Nat.le_of_ble_eq_true rfl, rfl, rfl⟩
  refine j_V (w2 := EW D E (upd (upd (upd (upd s (93 + 14 * p + 12) (nI 1)) 429 (nI p)) 428 (nI (0 + 1))) (64 + 7 * c + 4) (nI ((hd s c + 1) % 6)))) (st2 := []) (c_X0_setChannel E (upd (upd (upd s (93 + 14 * p + 12) (nI 1)) 429 (nI p)) 428 (nI (0 + 1))) c 4 (nI ((hd s c + 1) % 6)) (by omega) (by omega)) rfl cw_X0_91 dX0_letWait_49 [] rfl [0, 1, 2, 3, 4] rfl rfl rfl 0 ?_ ⟨rfl, ⟨Nat.le_of_ble_eq_true rfl, Nat.le_of_ble_eq_true rfl⟩, ⟨rfl, rfl⟩, ⟨Nat.le_of_ble_eq_true rfl, Nat.le_of_ble_eq_true rfl⟩, Nat.le_of_ble_eq_true rfl, rfl, rfl⟩ rfl rfl rfl
  exact j_vret dX0_letWait_52 ⟨rfl, rfl⟩ ⟨rfl, rfl⟩

set_option maxHeartbeats 4000000 in
set_option maxRecDepth 100000 in
theorem c_X0_carry (E : Nat → Nat) (s : SS) (p first many : Nat) (hp : p < 24) (hL : gL s p 2 = nI (nn s p) ∧ 1 ≤ nn s p ∧ nn s p < 17) (hb : first + many ≤ 64) : Ct D yX0_carry cX0_carry 5 none ({ frames := 2, cells := 0, slots := 0, locals := 49 } : Room) [.ref (E 0), .int (nI p), .int (nI first), .int (nI many)] (EW D E s) (fun v_ u_ => v_ = none ∧ u_ = EW D E (caF p many first s)) := by
  refine ct_of (by decide) (Nat.le_of_ble_eq_true rfl) (lv0 := [(0, .ref (E 0)), (1, .int (nI p)), (2, .int (nI first)), (3, .int (nI many))]) rfl (fun Γ => ?_)
  refine j_iload_n dX0_carry_0 2 rfl ?_
  refine j_istore (lv2 := [(0, .ref (E 0)), (1, .int (nI p)), (2, .int (nI first)), (3, .int (nI many)), (4, .int (nI first))]) dX0_carry_1 (by decide) [1, 2, 3, 4, 0] rfl ?_
  have L3 : ∀ (fuel : Nat) (i : Nat) (t : SS), i ≤ many → caF p many first s = caF p (many - i) (first + i) t → (∀ j, 64 ≤ j → t j = s j) → many - i < fuel → J D Γ yX0_carry cX0_carry 5 none ({ frames := 2, cells := 0, slots := 0, locals := 49 } : Room) (Qf D Γ ({ frames := 2, cells := 0, slots := 0, locals := 49 } : Room) (fun v_ u_ => v_ = none ∧ u_ = EW D E (caF p many first s))) 0 0 (EW D E t) 3 [(0, .ref (E 0)), (1, .int (nI p)), (2, .int (nI first)), (3, .int (nI many)), (4, .int (nI (first + i)))] [] := by
    intro fuel
    induction fuel with
    | zero => intro i t hi he hfr hm; exact absurd hm (Nat.not_lt_zero _)
    | succ fuel ih =>
      intro i t hi he hfr hm
      have hn : gL t p 2 = nI (nn t p) := by unfold nn gL; rw [hfr _ (by omega)]; exact hL.1
      have h12 : 1 ≤ nn t p ∧ nn t p < 17 := by unfold nn gL; rw [hfr _ (by omega)]; exact hL.2
      obtain ⟨h1, h2⟩ := h12
      refine j_iload dX0_carry_3 4 rfl ?_
      refine j_iload_n dX0_carry_5 2 rfl ?_
      refine j_iload_n dX0_carry_6 3 rfl ?_
      refine j_iadd (v := nI (first + many)) dX0_carry_7 (nI_add _ _) ?_
      refine j_icmp_ge_N (tgt := 43) dX0_carry_8 (by decide) ⟨by omega, by omega⟩ (fun h8 => ?_) (fun h8 => ?_)
      · skip
        exact j_vret dX0_carry_43 ⟨rfl, rfl⟩ ⟨rfl, by have e : many - i = 0 := (by omega); rw [he, e]; rfl⟩
      · skip
        refine j_aload_n dX0_carry_11 0 rfl ?_
        refine g_X0_9 rfl dX0_carry_12 0 rfl rfl ?_
        refine j_aload_n dX0_carry_15 0 rfl ?_
        refine j_iload_n dX0_carry_16 1 rfl ?_
        refine j_iload dX0_carry_17 4 rfl ?_
        refine j_iconst (v := nI 1) dX0_carry_19 (by decide) ?_
        refine j_V (w2 := EW D E t) (st2 := [.int (nI (ad t p (first + i) 1)), .ref (E 1)]) (c_X0_addressOf E t p (first + i) 1 (by omega) hn (by omega) (by omega) (by omega) (by omega)) rfl cw_X0_53 dX0_carry_20 [.ref (E 1)] rfl [0, 1, 2, 3, 4] rfl rfl rfl 0 ?_ ⟨rfl, ⟨Nat.le_of_ble_eq_true rfl, Nat.le_of_ble_eq_true rfl⟩, ⟨rfl, rfl⟩, ⟨Nat.le_of_ble_eq_true rfl, Nat.le_of_ble_eq_true rfl⟩, Nat.le_of_ble_eq_true rfl, rfl, rfl⟩ rfl rfl rfl
        refine j_aload_n dX0_carry_23 0 rfl ?_
        refine g_X0_9 rfl dX0_carry_24 0 rfl rfl ?_
        refine j_aload_n dX0_carry_27 0 rfl ?_
        refine j_iload_n dX0_carry_28 1 rfl ?_
        refine j_iload dX0_carry_29 4 rfl ?_
        refine j_iconst (v := nI 0) dX0_carry_31 (by decide) ?_
        refine j_V (w2 := EW D E t) (st2 := [.int (nI (ad t p (first + i) 0)), .ref (E 1), .int (nI (ad t p (first + i) 1)), .ref (E 1)]) (c_X0_addressOf E t p (first + i) 0 (by omega) hn (by omega) (by omega) (by omega) (by omega)) rfl cw_X0_53 dX0_carry_32 [.ref (E 1), .int (nI (ad t p (first + i) 1)), .ref (E 1)] rfl [0, 1, 2, 3, 4] rfl rfl rfl 0 ?_ ⟨rfl, ⟨Nat.le_of_ble_eq_true rfl, Nat.le_of_ble_eq_true rfl⟩, ⟨rfl, rfl⟩, ⟨Nat.le_of_ble_eq_true rfl, Nat.le_of_ble_eq_true rfl⟩, Nat.le_of_ble_eq_true rfl, rfl, rfl⟩ rfl rfl rfl
        refine j_iald (v := t (ad t p (first + i) 0)) dX0_carry_35 1 (ad t p (first + i) 0) rfl (rfl) (ad_lt _ _ _ _) (Nat.le_of_ble_eq_true rfl) (vM_at (ad_lt _ _ _ _)) ?_
        refine j_iast (w2 := EW D E (upd t (ad t p (first + i) 1) (t (ad t p (first + i) 0)))) dX0_carry_36 1 (ad t p (first + i) 1) rfl (rfl) (ad_lt _ _ _ _) (Nat.le_of_ble_eq_true rfl) (EW_M (ad_lt _ _ _ _)) ?_
        refine j_iinc (v := nI (first + i + 1)) (lv2 := [(0, .ref (E 0)), (1, .int (nI p)), (2, .int (nI first)), (3, .int (nI many)), (4, .int (nI (first + i + 1)))]) dX0_carry_37 4 rfl (nI_1 _) (by decide) [1, 2, 3, 4, 0] rfl ?_
        refine j_goto (tgt := 3) dX0_carry_40 (by decide) ?_
        exact ih (i + 1) _ (by omega) (by rw [he, show many - i = (many - (i + 1)) + 1 by omega]; rfl) (fun j hj => (up_ne (by have := ad_lt t p (first + i) 1; omega)).trans (hfr j hj)) (by omega)
  exact L3 (many + 1) 0 s (by omega) rfl (fun _ _ => rfl) (by omega)

set_option maxHeartbeats 4000000 in
set_option maxRecDepth 100000 in
theorem c_X0_grant (E : Nat → Nat) (s : SS) (b : Bool) (hI : Inv s) (c : Nat) (hc : c < 4) (ht : tc s (pl s c) = true) (hq : s 428 = 0) : Ct D yX0_grant cX0_grant 6 none ({ frames := 3, cells := 0, slots := 0, locals := 73 } : Room) [.ref (E 0), .int (nI c), .int (bI b)] (EW D E s) (fun v_ u_ => v_ = none ∧ u_ = EW D E (grF b s c)) := by
  have hpl := hI.pl_ hc
  have hle := hI.le hpl (hI.tc_ hpl ht)
  have hbu := (hI.bu_ hc).2
  have hre := hle.2.2.2.2
  have hun := un_lt hle.2.1.2.2 hle.2.2.1.2.2
  have hmn : mny s c ≤ re s (pl s c) := Nat.min_le_right _ _
  have hL : gL (gr1 s c) (pl s c) 2 = nI (nn (gr1 s c) (pl s c)) ∧ 1 ≤ nn (gr1 s c) (pl s c) ∧ nn (gr1 s c) (pl s c) < 17 := by
    unfold nn gL; rw [gr1_ne ⟨by omega, by omega⟩]; exact hle.2.1
  refine ct_of (by decide) (Nat.le_of_ble_eq_true rfl) (lv0 := [(0, .ref (E 0)), (1, .int (nI c)), (2, .int (bI b))]) rfl (fun Γ => ?_)
  refine j_aload_n dX0_grant_0 0 rfl ?_
  refine j_iload_n dX0_grant_1 1 rfl ?_
  refine j_V (w2 := EW D E s) (st2 := [.int (oN (prs s c))]) (c_X0_presentOf E s hI c (by omega)) rfl cw_X0_76 dX0_grant_2 [] rfl [0, 1, 2, 3, 4] rfl rfl rfl 0 ?_ ⟨rfl, ⟨Nat.le_of_ble_eq_true rfl, Nat.le_of_ble_eq_true rfl⟩, ⟨rfl, rfl⟩, ⟨Nat.le_of_ble_eq_true rfl, Nat.le_of_ble_eq_true rfl⟩, Nat.le_of_ble_eq_true rfl, rfl, rfl⟩ rfl rfl rfl
  refine j_topi (v := nI (pl s c)) (by rw [prs_t ht]; rfl) ?_
  refine j_istore_n (lv2 := [(0, .ref (E 0)), (1, .int (nI c)), (2, .int (bI b)), (3, .int (nI (pl s c)))]) dX0_grant_5 (by decide) [1, 2, 3, 0] rfl ?_
  refine j_iload_n dX0_grant_6 3 rfl ?_
  refine j_bipush (v := (-9)) dX0_grant_7 (by decide) ?_
  refine j_icmp_ne (tgt := 13) dX0_grant_9 (by decide) (fun h9 => ?_) (fun h9 => absurd h9 (nI_m9 (by omega)))
  refine j_aload_n dX0_grant_13 0 rfl ?_
  refine j_iload_n dX0_grant_14 1 rfl ?_
  refine p_X0_28 (w2 := EW D E (upd s 453 (nI c))) rfl dX0_grant_15 0 rfl (Nat.le_of_ble_eq_true rfl) (EW_l) ?_
  refine j_aload_n dX0_grant_18 0 rfl ?_
  refine j_iload_n dX0_grant_19 1 rfl ?_
  refine j_bipush (v := nI 6) dX0_grant_20 (by decide) ?_
  refine j_V (w2 := EW D E (upd (upd s 453 (nI c)) (64 + 7 * c + 6) (gC (upd s 453 (nI c)) c 6 + 1))) (st2 := []) (c_X0_addOneTo E (upd s 453 (nI c)) c 6 (by omega) (by omega)) rfl cw_X0_113 dX0_grant_22 [] rfl [0, 1, 2, 3, 4] rfl rfl rfl 0 ?_ ⟨rfl, ⟨Nat.le_of_ble_eq_true rfl, Nat.le_of_ble_eq_true rfl⟩, ⟨rfl, rfl⟩, ⟨Nat.le_of_ble_eq_true rfl, Nat.le_of_ble_eq_true rfl⟩, Nat.le_of_ble_eq_true rfl, rfl, rfl⟩ rfl rfl rfl
  refine j_w (w2 := EW D E (gr1 s c)) (rfl) ?_
  refine j_aload_n dX0_grant_25 0 rfl ?_
  refine j_iload_n dX0_grant_26 3 rfl ?_
  refine j_bipush (v := nI 11) dX0_grant_27 (by decide) ?_
  refine j_V (w2 := EW D E (gr1 s c)) (st2 := [.int (gL (gr1 s c) (pl s c) 11)]) (c_X0_ofLetter E (gr1 s c) (pl s c) 11 (by omega) (by omega)) rfl cw_X0_40 dX0_grant_29 [] rfl [0, 1, 2, 3, 4] rfl rfl rfl 0 ?_ ⟨rfl, ⟨Nat.le_of_ble_eq_true rfl, Nat.le_of_ble_eq_true rfl⟩, ⟨rfl, rfl⟩, ⟨Nat.le_of_ble_eq_true rfl, Nat.le_of_ble_eq_true rfl⟩, Nat.le_of_ble_eq_true rfl, rfl, rfl⟩ rfl rfl rfl
  refine j_topi (v := nI (re s (pl s c))) ((gr1_ne ⟨by omega, by omega⟩).trans hle.2.2.2.1) ?_
  refine j_istore (lv2 := [(0, .ref (E 0)), (1, .int (nI c)), (2, .int (bI b)), (3, .int (nI (pl s c))), (4, .int (nI (re s (pl s c))))]) dX0_grant_32 (by decide) [1, 2, 3, 4, 0] rfl ?_
  refine j_aload_n dX0_grant_34 0 rfl ?_
  refine j_iload_n dX0_grant_35 1 rfl ?_
  refine j_iconst (v := nI 2) dX0_grant_36 (by decide) ?_
  refine j_V (w2 := EW D E (gr1 s c)) (st2 := [.int (gC (gr1 s c) c 2)]) (c_X0_ofChannel E (gr1 s c) c 2 (by omega) (by omega)) rfl cw_X0_73 dX0_grant_37 [] rfl [0, 1, 2, 3, 4] rfl rfl rfl 0 ?_ ⟨rfl, ⟨Nat.le_of_ble_eq_true rfl, Nat.le_of_ble_eq_true rfl⟩, ⟨rfl, rfl⟩, ⟨Nat.le_of_ble_eq_true rfl, Nat.le_of_ble_eq_true rfl⟩, Nat.le_of_ble_eq_true rfl, rfl, rfl⟩ rfl rfl rfl
  refine j_topi (v := nI (bu s c)) ((gr1_ne ⟨by omega, by omega⟩).trans (hI.bu_ hc).1) ?_
  refine j_iload dX0_grant_40 4 rfl ?_
  refine j_S (w2 := EW D E (gr1 s c)) (st2 := [.int (nI (min (bu s c) (re s (pl s c))))]) (c_J9_min_7cf53 (bu s c) (re s (pl s c)) (by omega) (by omega)) rfl cw_X0_120 dX0_grant_42 [] rfl [] rfl rfl rfl ?_ ⟨rfl, ⟨Nat.le_of_ble_eq_true rfl, Nat.le_of_ble_eq_true rfl⟩, ⟨rfl, rfl⟩, ⟨Nat.le_of_ble_eq_true rfl, Nat.le_of_ble_eq_true rfl⟩, Nat.le_of_ble_eq_true rfl, rfl, rfl⟩
  refine j_topi (v := nI (mny s c)) (rfl) ?_
  refine j_istore (lv2 := [(0, .ref (E 0)), (1, .int (nI c)), (2, .int (bI b)), (3, .int (nI (pl s c))), (4, .int (nI (re s (pl s c)))), (5, .int (nI (mny s c)))]) dX0_grant_45 (by decide) [1, 2, 3, 4, 5, 0] rfl ?_
  refine j_iload_n dX0_grant_47 2 rfl ?_
  refine j_if_eq_B (tgt := 66) dX0_grant_48 (by decide) (fun h48 => ?_) (fun h48 => ?_)
  · skip
    refine j_w (w2 := EW D E (gr2 b s c)) (by rw [gr2_f h48]) ?_
    refine j_aload_n dX0_grant_66 0 rfl ?_
    refine j_iload_n dX0_grant_67 3 rfl ?_
    refine j_bipush (v := nI 11) dX0_grant_68 (by decide) ?_
    refine j_iload dX0_grant_70 4 rfl ?_
    refine j_iload dX0_grant_72 5 rfl ?_
    refine j_isub (v := nI ((re s (pl s c)) - (mny s c))) dX0_grant_74 (pk_sub (by omega)) ?_
    refine j_V (w2 := EW D E (upd (gr2 b s c) (93 + 14 * (pl s c) + 11) (nI ((re s (pl s c)) - (mny s c))))) (st2 := []) (c_X0_setLetter E (gr2 b s c) (pl s c) 11 (nI ((re s (pl s c)) - (mny s c))) (by omega) (by omega)) rfl cw_X0_95 dX0_grant_75 [] rfl [0, 1, 2, 3, 4] rfl rfl rfl 0 ?_ ⟨rfl, ⟨Nat.le_of_ble_eq_true rfl, Nat.le_of_ble_eq_true rfl⟩, ⟨rfl, rfl⟩, ⟨Nat.le_of_ble_eq_true rfl, Nat.le_of_ble_eq_true rfl⟩, Nat.le_of_ble_eq_true rfl, rfl, rfl⟩ rfl rfl rfl
    refine j_w (w2 := EW D E (gr3 b s c)) (rfl) ?_
    refine j_iload dX0_grant_78 4 rfl ?_
    refine j_iload dX0_grant_80 5 rfl ?_
    refine j_icmp_ne_N (tgt := 91) dX0_grant_82 (by decide) ⟨by omega, by omega⟩ (fun h82 => ?_) (fun h82 => ?_)
    · skip
      exact j_vret dX0_grant_91 ⟨rfl, rfl⟩ ⟨rfl, by rw [grF_n h82]⟩
    · skip
      refine j_aload_n dX0_grant_85 0 rfl ?_
      refine j_iload_n dX0_grant_86 1 rfl ?_
      refine j_iload_n dX0_grant_87 3 rfl ?_
      refine j_V (w2 := EW D E (wtF (gr3 b s c) c (pl s c))) (st2 := []) (c_X0_letWait E (gr3 b s c) (Inv_gr3 hI hc ht) c (pl s c) (by omega) (by omega) ((gr3_ne ⟨by omega, by omega, by omega⟩ (by omega)).trans hq)) rfl cw_X0_126 dX0_grant_88 [] rfl [0, 1, 2, 3, 4] rfl rfl rfl 0 ?_ ⟨rfl, ⟨Nat.le_of_ble_eq_true rfl, Nat.le_of_ble_eq_true rfl⟩, ⟨rfl, rfl⟩, ⟨Nat.le_of_ble_eq_true rfl, Nat.le_of_ble_eq_true rfl⟩, Nat.le_of_ble_eq_true rfl, rfl, rfl⟩ rfl rfl rfl
      exact j_vret dX0_grant_91 ⟨rfl, rfl⟩ ⟨rfl, by rw [grF_y h82]⟩
  · skip
    refine j_aload_n dX0_grant_51 0 rfl ?_
    refine j_iload_n dX0_grant_52 3 rfl ?_
    refine j_aload_n dX0_grant_53 0 rfl ?_
    refine j_iload_n dX0_grant_54 3 rfl ?_
    refine j_V (w2 := EW D E (gr1 s c)) (st2 := [.int (gL (gr1 s c) (pl s c) 2 * gL (gr1 s c) (pl s c) 5), .int (nI (pl s c)), .ref (E 0)]) (c_X0_unitsOf E (gr1 s c) (pl s c) (by omega)) rfl cw_X0_49 dX0_grant_55 [.int (nI (pl s c)), .ref (E 0)] rfl [0, 1, 2, 3, 4] rfl rfl rfl 0 ?_ ⟨rfl, ⟨Nat.le_of_ble_eq_true rfl, Nat.le_of_ble_eq_true rfl⟩, ⟨rfl, rfl⟩, ⟨Nat.le_of_ble_eq_true rfl, Nat.le_of_ble_eq_true rfl⟩, Nat.le_of_ble_eq_true rfl, rfl, rfl⟩ rfl rfl rfl
    refine j_topi (v := nI (un s (pl s c))) (by unfold gL; rw [gr1_ne (k := 93 + 14 * pl s c + 2) ⟨by omega, by omega⟩, gr1_ne (k := 93 + 14 * pl s c + 5) ⟨by omega, by omega⟩]; show gL s (pl s c) 2 * gL s (pl s c) 5 = _; rw [hle.2.1.1, hle.2.2.1.1, pk_mul]; rfl) ?_
    refine j_iload dX0_grant_58 4 rfl ?_
    refine j_isub (v := nI ((un s (pl s c)) - (re s (pl s c)))) dX0_grant_60 (pk_sub (by omega)) ?_
    refine j_iload dX0_grant_61 5 rfl ?_
    refine j_V (w2 := EW D E (caF (pl s c) (mny s c) ((un s (pl s c)) - (re s (pl s c))) (gr1 s c))) (st2 := []) (c_X0_carry E (gr1 s c) (pl s c) ((un s (pl s c)) - (re s (pl s c))) (mny s c) (by omega) hL (by omega)) rfl cw_X0_123 dX0_grant_63 [] rfl [0, 1, 2, 3, 4] rfl rfl rfl 0 ?_ ⟨rfl, ⟨Nat.le_of_ble_eq_true rfl, Nat.le_of_ble_eq_true rfl⟩, ⟨rfl, rfl⟩, ⟨Nat.le_of_ble_eq_true rfl, Nat.le_of_ble_eq_true rfl⟩, Nat.le_of_ble_eq_true rfl, rfl, rfl⟩ rfl rfl rfl
    refine j_w (w2 := EW D E (gr2 b s c)) (by rw [gr2_t h48]) ?_
    refine j_aload_n dX0_grant_66 0 rfl ?_
    refine j_iload_n dX0_grant_67 3 rfl ?_
    refine j_bipush (v := nI 11) dX0_grant_68 (by decide) ?_
    refine j_iload dX0_grant_70 4 rfl ?_
    refine j_iload dX0_grant_72 5 rfl ?_
    refine j_isub (v := nI ((re s (pl s c)) - (mny s c))) dX0_grant_74 (pk_sub (by omega)) ?_
    refine j_V (w2 := EW D E (upd (gr2 b s c) (93 + 14 * (pl s c) + 11) (nI ((re s (pl s c)) - (mny s c))))) (st2 := []) (c_X0_setLetter E (gr2 b s c) (pl s c) 11 (nI ((re s (pl s c)) - (mny s c))) (by omega) (by omega)) rfl cw_X0_95 dX0_grant_75 [] rfl [0, 1, 2, 3, 4] rfl rfl rfl 0 ?_ ⟨rfl, ⟨Nat.le_of_ble_eq_true rfl, Nat.le_of_ble_eq_true rfl⟩, ⟨rfl, rfl⟩, ⟨Nat.le_of_ble_eq_true rfl, Nat.le_of_ble_eq_true rfl⟩, Nat.le_of_ble_eq_true rfl, rfl, rfl⟩ rfl rfl rfl
    refine j_w (w2 := EW D E (gr3 b s c)) (rfl) ?_
    refine j_iload dX0_grant_78 4 rfl ?_
    refine j_iload dX0_grant_80 5 rfl ?_
    refine j_icmp_ne_N (tgt := 91) dX0_grant_82 (by decide) ⟨by omega, by omega⟩ (fun h82 => ?_) (fun h82 => ?_)
    · skip
      exact j_vret dX0_grant_91 ⟨rfl, rfl⟩ ⟨rfl, by rw [grF_n h82]⟩
    · skip
      refine j_aload_n dX0_grant_85 0 rfl ?_
      refine j_iload_n dX0_grant_86 1 rfl ?_
      refine j_iload_n dX0_grant_87 3 rfl ?_
      refine j_V (w2 := EW D E (wtF (gr3 b s c) c (pl s c))) (st2 := []) (c_X0_letWait E (gr3 b s c) (Inv_gr3 hI hc ht) c (pl s c) (by omega) (by omega) ((gr3_ne ⟨by omega, by omega, by omega⟩ (by omega)).trans hq)) rfl cw_X0_126 dX0_grant_88 [] rfl [0, 1, 2, 3, 4] rfl rfl rfl 0 ?_ ⟨rfl, ⟨Nat.le_of_ble_eq_true rfl, Nat.le_of_ble_eq_true rfl⟩, ⟨rfl, rfl⟩, ⟨Nat.le_of_ble_eq_true rfl, Nat.le_of_ble_eq_true rfl⟩, Nat.le_of_ble_eq_true rfl, rfl, rfl⟩ rfl rfl rfl
      exact j_vret dX0_grant_91 ⟨rfl, rfl⟩ ⟨rfl, by rw [grF_y h82]⟩

set_option maxHeartbeats 4000000 in
set_option maxRecDepth 100000 in
theorem c_X0_tick (E : Nat → Nat) (s : SS) (b : Bool) (hI : Inv s) : Ct D yX0_tick cX0_tick 3 (some .int) ({ frames := 4, cells := 0, slots := 0, locals := 98 } : Room) [.ref (E 0), .int (bI b)] (EW D E s) (fun v_ u_ => v_ = some (.int (oN (tkW s))) ∧ u_ = EW D E (tkF b s)) := by
  refine ct_of (by decide) (Nat.le_of_ble_eq_true rfl) (lv0 := [(0, .ref (E 0)), (1, .int (bI b))]) rfl (fun Γ => ?_)
  refine j_aload_n dX0_tick_0 0 rfl ?_
  refine j_dup dX0_tick_1 rfl ?_
  refine g_X0_31 rfl dX0_tick_2 0 rfl rfl ?_
  refine j_iconst (v := nI 1) dX0_tick_5 (by decide) ?_
  refine j_iadd (v := (s 454) + (nI 1)) dX0_tick_6 (rfl) ?_
  refine p_X0_31 (w2 := EW D E (tk0 s)) rfl dX0_tick_7 0 rfl (Nat.le_of_ble_eq_true rfl) (EW_t) ?_
  refine j_aload_n dX0_tick_10 0 rfl ?_
  refine g_X0_24 rfl dX0_tick_11 0 rfl rfl ?_
  refine j_if_le (tgt := 22) dX0_tick_14 (by decide) (fun h14 => ?_) (fun h14 => ?_)
  · skip
    refine j_w (w2 := EW D E (tk s)) (by rw [tk_n (q_le (Inv_tk0 hI) h14)]) ?_
    refine j_aload_n dX0_tick_22 0 rfl ?_
    refine j_V (w2 := EW D E (tk s)) (st2 := [.int (oN (who (tk s)))]) (c_X0_nextToGrant E (tk s) (Inv_tk hI)) rfl cw_X0_105 dX0_tick_23 [] rfl [0, 1, 2, 3, 4] rfl rfl rfl 0 ?_ ⟨rfl, ⟨Nat.le_of_ble_eq_true rfl, Nat.le_of_ble_eq_true rfl⟩, ⟨rfl, rfl⟩, ⟨Nat.le_of_ble_eq_true rfl, Nat.le_of_ble_eq_true rfl⟩, Nat.le_of_ble_eq_true rfl, rfl, rfl⟩ rfl rfl rfl
    refine j_topi (v := oN (tkW s)) (rfl) ?_
    refine j_istore_n (lv2 := [(0, .ref (E 0)), (1, .int (bI b)), (2, .int (oN (tkW s)))]) dX0_tick_26 (by decide) [1, 2, 0] rfl ?_
    rcases hw : tkW s with _ | c
    · skip
      refine j_iload_n dX0_tick_27 2 rfl ?_
      refine j_bipush (v := (-9)) dX0_tick_28 (by decide) ?_
      refine j_icmp_eq (tgt := 39) dX0_tick_30 (by decide) (fun h30 => ?_) (fun h30 => absurd rfl h30)
      refine j_iload_n dX0_tick_39 2 rfl ?_
      exact j_iret dX0_tick_40 ⟨rfl, rfl⟩ ⟨rfl, by rw [tkF_n hw]⟩
    · skip
      have hc4 := who_lt hw
      refine j_iload_n dX0_tick_27 2 rfl ?_
      refine j_bipush (v := (-9)) dX0_tick_28 (by decide) ?_
      refine j_icmp_eq (tgt := 39) dX0_tick_30 (by decide) (fun h30 => absurd h30 (nI_m9 (by omega))) (fun h30 => ?_)
      refine j_aload_n dX0_tick_33 0 rfl ?_
      refine j_iload_n dX0_tick_34 2 rfl ?_
      refine j_iload_n dX0_tick_35 1 rfl ?_
      refine j_V (w2 := EW D E (grF b (tk s) c)) (st2 := []) (c_X0_grant E (tk s) b (Inv_tk hI) c (who_lt hw) (who_tc hw) tk_q) rfl cw_X0_109 dX0_tick_36 [] rfl [0, 1, 2, 3, 4] rfl rfl rfl 0 ?_ ⟨rfl, ⟨Nat.le_of_ble_eq_true rfl, Nat.le_of_ble_eq_true rfl⟩, ⟨rfl, rfl⟩, ⟨Nat.le_of_ble_eq_true rfl, Nat.le_of_ble_eq_true rfl⟩, Nat.le_of_ble_eq_true rfl, rfl, rfl⟩ rfl rfl rfl
      refine j_iload_n dX0_tick_39 2 rfl ?_
      exact j_iret dX0_tick_40 ⟨rfl, rfl⟩ ⟨rfl, by rw [tkF_s hw]⟩
  · skip
    refine j_aload_n dX0_tick_17 0 rfl ?_
    refine j_iconst (v := nI 0) dX0_tick_18 (by decide) ?_
    have hqu := (Inv_tk0 hI).qu_ (q_gt h14)
    refine j_V (w2 := EW D E (wbF (tk0 s) (qu (tk0 s)))) (st2 := []) (c_X0_writeBack E (tk0 s) (qu (tk0 s)) hqu.2.2 hqu.1 hqu.2.1) rfl cw_X0_101 dX0_tick_19 [] rfl [0, 1, 2, 3, 4] rfl rfl rfl 0 ?_ ⟨rfl, ⟨Nat.le_of_ble_eq_true rfl, Nat.le_of_ble_eq_true rfl⟩, ⟨rfl, rfl⟩, ⟨Nat.le_of_ble_eq_true rfl, Nat.le_of_ble_eq_true rfl⟩, Nat.le_of_ble_eq_true rfl, rfl, rfl⟩ rfl rfl rfl
    refine j_w (w2 := EW D E (tk s)) (by rw [tk_y (q_gt h14)]) ?_
    refine j_aload_n dX0_tick_22 0 rfl ?_
    refine j_V (w2 := EW D E (tk s)) (st2 := [.int (oN (who (tk s)))]) (c_X0_nextToGrant E (tk s) (Inv_tk hI)) rfl cw_X0_105 dX0_tick_23 [] rfl [0, 1, 2, 3, 4] rfl rfl rfl 0 ?_ ⟨rfl, ⟨Nat.le_of_ble_eq_true rfl, Nat.le_of_ble_eq_true rfl⟩, ⟨rfl, rfl⟩, ⟨Nat.le_of_ble_eq_true rfl, Nat.le_of_ble_eq_true rfl⟩, Nat.le_of_ble_eq_true rfl, rfl, rfl⟩ rfl rfl rfl
    refine j_topi (v := oN (tkW s)) (rfl) ?_
    refine j_istore_n (lv2 := [(0, .ref (E 0)), (1, .int (bI b)), (2, .int (oN (tkW s)))]) dX0_tick_26 (by decide) [1, 2, 0] rfl ?_
    rcases hw : tkW s with _ | c
    · skip
      refine j_iload_n dX0_tick_27 2 rfl ?_
      refine j_bipush (v := (-9)) dX0_tick_28 (by decide) ?_
      refine j_icmp_eq (tgt := 39) dX0_tick_30 (by decide) (fun h30 => ?_) (fun h30 => absurd rfl h30)
      refine j_iload_n dX0_tick_39 2 rfl ?_
      exact j_iret dX0_tick_40 ⟨rfl, rfl⟩ ⟨rfl, by rw [tkF_n hw]⟩
    · skip
      have hc4 := who_lt hw
      refine j_iload_n dX0_tick_27 2 rfl ?_
      refine j_bipush (v := (-9)) dX0_tick_28 (by decide) ?_
      refine j_icmp_eq (tgt := 39) dX0_tick_30 (by decide) (fun h30 => absurd h30 (nI_m9 (by omega))) (fun h30 => ?_)
      refine j_aload_n dX0_tick_33 0 rfl ?_
      refine j_iload_n dX0_tick_34 2 rfl ?_
      refine j_iload_n dX0_tick_35 1 rfl ?_
      refine j_V (w2 := EW D E (grF b (tk s) c)) (st2 := []) (c_X0_grant E (tk s) b (Inv_tk hI) c (who_lt hw) (who_tc hw) tk_q) rfl cw_X0_109 dX0_tick_36 [] rfl [0, 1, 2, 3, 4] rfl rfl rfl 0 ?_ ⟨rfl, ⟨Nat.le_of_ble_eq_true rfl, Nat.le_of_ble_eq_true rfl⟩, ⟨rfl, rfl⟩, ⟨Nat.le_of_ble_eq_true rfl, Nat.le_of_ble_eq_true rfl⟩, Nat.le_of_ble_eq_true rfl, rfl, rfl⟩ rfl rfl rfl
      refine j_iload_n dX0_tick_39 2 rfl ?_
      exact j_iret dX0_tick_40 ⟨rfl, rfl⟩ ⟨rfl, by rw [tkF_s hw]⟩

set_option maxHeartbeats 4000000 in
set_option maxRecDepth 100000 in
theorem c_X0_writeBackAllOf (E : Nat → Nat) (s : SS) (hI : Inv s) (c : Nat) (hc : c < 4) : Ct D yX0_writeBackAllOf cX0_writeBackAllOf 4 none ({ frames := 2, cells := 0, slots := 0, locals := 46 } : Room) [.ref (E 0), .int (nI c)] (EW D E s) (fun v_ u_ => v_ = none ∧ u_ = EW D E (waF s c)) := by
  refine ct_of (by decide) (Nat.le_of_ble_eq_true rfl) (lv0 := [(0, .ref (E 0)), (1, .int (nI c))]) rfl (fun Γ => ?_)
  by_cases hq : s 428 = 0
  · skip
    refine j_iconst (v := nI 0) dX0_writeBackAllOf_0 (by decide) ?_
    refine j_istore_n (lv2 := [(0, .ref (E 0)), (1, .int (nI c)), (2, .int (nI 0))]) dX0_writeBackAllOf_1 (by decide) [1, 2, 0] rfl ?_
    refine j_aload_n dX0_writeBackAllOf_2 0 rfl ?_
    refine g_X0_24 rfl dX0_writeBackAllOf_3 0 rfl rfl ?_
    refine j_topi (v := nI 0) (hq) ?_
    refine j_istore_n (lv2 := [(0, .ref (E 0)), (1, .int (nI c)), (2, .int (nI 0)), (3, .int (nI 0))]) dX0_writeBackAllOf_6 (by decide) [1, 2, 3, 0] rfl ?_
    refine j_iload_n dX0_writeBackAllOf_7 3 rfl ?_
    refine j_if_le_N (tgt := 41) dX0_writeBackAllOf_8 (by decide) (by omega) (fun h8 => ?_) (fun h8 => absurd (Nat.le_refl 0) h8)
    exact j_vret dX0_writeBackAllOf_41 ⟨rfl, rfl⟩ ⟨rfl, by rw [waF_0 hq]⟩
  · skip
    have hqu := hI.qu_ hq
    have hq3 := hqu.2.2
    refine j_iconst (v := nI 0) dX0_writeBackAllOf_0 (by decide) ?_
    refine j_istore_n (lv2 := [(0, .ref (E 0)), (1, .int (nI c)), (2, .int (nI 0))]) dX0_writeBackAllOf_1 (by decide) [1, 2, 0] rfl ?_
    refine j_aload_n dX0_writeBackAllOf_2 0 rfl ?_
    refine g_X0_24 rfl dX0_writeBackAllOf_3 0 rfl rfl ?_
    refine j_topi (v := nI 1) (hqu.1) ?_
    refine j_istore_n (lv2 := [(0, .ref (E 0)), (1, .int (nI c)), (2, .int (nI 0)), (3, .int (nI 1))]) dX0_writeBackAllOf_6 (by decide) [1, 2, 3, 0] rfl ?_
    refine j_iload_n dX0_writeBackAllOf_7 3 rfl ?_
    refine j_if_le_N (tgt := 41) dX0_writeBackAllOf_8 (by decide) (by omega) (fun h8 => absurd h8 (by omega)) (fun h8 => ?_)
    refine j_aload_n dX0_writeBackAllOf_11 0 rfl ?_
    refine g_X0_21 rfl dX0_writeBackAllOf_12 0 rfl rfl ?_
    refine j_iload_n dX0_writeBackAllOf_15 2 rfl ?_
    refine j_iald (v := nI (qu s)) dX0_writeBackAllOf_16 4 0 rfl (rfl) (by omega) (Nat.le_of_ble_eq_true rfl) (Eq.trans (vQ_at (by decide)) hqu.2.1) ?_
    refine j_bipush (v := nI 6) dX0_writeBackAllOf_17 (by decide) ?_
    refine j_idiv (v := nI ((qu s) / 6)) dX0_writeBackAllOf_19 (by decide) (pk_div (by omega) (by omega) (by omega)) ?_
    refine j_iload_n dX0_writeBackAllOf_20 1 rfl ?_
    refine j_icmp_ne_N (tgt := 32) dX0_writeBackAllOf_21 (by decide) ⟨by omega, by omega⟩ (fun h21 => ?_) (fun h21 => ?_)
    · skip
      refine j_iinc (v := nI (0 + 1)) (lv2 := [(0, .ref (E 0)), (1, .int (nI c)), (2, .int (nI (0 + 1))), (3, .int (nI 1))]) dX0_writeBackAllOf_32 2 rfl (nI_1 _) (by decide) [1, 2, 0, 3] rfl ?_
      refine j_iinc (v := nI 0) (lv2 := [(0, .ref (E 0)), (1, .int (nI c)), (2, .int (nI (0 + 1))), (3, .int (nI 0))]) dX0_writeBackAllOf_35 3 rfl (by decide) (by decide) [1, 2, 3, 0] rfl ?_
      refine j_goto (tgt := 7) dX0_writeBackAllOf_38 (by decide) ?_
      refine j_iload_n dX0_writeBackAllOf_7 3 rfl ?_
      refine j_if_le_N (tgt := 41) dX0_writeBackAllOf_8 (by decide) (by omega) (fun h8 => ?_) (fun h8 => absurd (Nat.le_refl 0) h8)
      exact j_vret dX0_writeBackAllOf_41 ⟨rfl, rfl⟩ ⟨rfl, by rw [waF_n hq h21]⟩
    · skip
      refine j_aload_n dX0_writeBackAllOf_24 0 rfl ?_
      refine j_iload_n dX0_writeBackAllOf_25 2 rfl ?_
      refine j_V (w2 := EW D E (wbF s (qu s))) (st2 := []) (c_X0_writeBack E s (qu s) hqu.2.2 hqu.1 hqu.2.1) rfl cw_X0_101 dX0_writeBackAllOf_26 [] rfl [0, 1, 2, 3, 4] rfl rfl rfl 0 ?_ ⟨rfl, ⟨Nat.le_of_ble_eq_true rfl, Nat.le_of_ble_eq_true rfl⟩, ⟨rfl, rfl⟩, ⟨Nat.le_of_ble_eq_true rfl, Nat.le_of_ble_eq_true rfl⟩, Nat.le_of_ble_eq_true rfl, rfl, rfl⟩ rfl rfl rfl
      refine j_goto (tgt := 35) dX0_writeBackAllOf_29 (by decide) ?_
      refine j_iinc (v := nI 0) (lv2 := [(0, .ref (E 0)), (1, .int (nI c)), (2, .int (nI 0)), (3, .int (nI 0))]) dX0_writeBackAllOf_35 3 rfl (by decide) (by decide) [1, 2, 3, 0] rfl ?_
      refine j_goto (tgt := 7) dX0_writeBackAllOf_38 (by decide) ?_
      refine j_iload_n dX0_writeBackAllOf_7 3 rfl ?_
      refine j_if_le_N (tgt := 41) dX0_writeBackAllOf_8 (by decide) (by omega) (fun h8 => ?_) (fun h8 => absurd (Nat.le_refl 0) h8)
      exact j_vret dX0_writeBackAllOf_41 ⟨rfl, rfl⟩ ⟨rfl, by rw [waF_y hq h21]⟩

set_option maxHeartbeats 4000000 in
set_option maxRecDepth 100000 in
theorem c_X0_cancel (E : Nat → Nat) (s : SS) (hI : Inv s) (c : Nat) (hc : c < 4) : Ct D yX0_cancel cX0_cancel 7 (some .int) ({ frames := 3, cells := 0, slots := 0, locals := 69 } : Room) [.ref (E 0), .int (nI c)] (EW D E s) (fun v_ u_ => v_ = some (.int (cnA s c)) ∧ u_ = EW D E (cnF s c)) := by
  refine ct_of (by decide) (Nat.le_of_ble_eq_true rfl) (lv0 := [(0, .ref (E 0)), (1, .int (nI c))]) rfl (fun Γ => ?_)
  refine j_aload_n dX0_cancel_0 0 rfl ?_
  refine j_iload_n dX0_cancel_1 1 rfl ?_
  refine j_V (w2 := EW D E (waF s c)) (st2 := []) (c_X0_writeBackAllOf E s hI c (by omega)) rfl cw_X0_129 dX0_cancel_2 [] rfl [0, 1, 2, 3, 4] rfl rfl rfl 0 ?_ ⟨rfl, ⟨Nat.le_of_ble_eq_true rfl, Nat.le_of_ble_eq_true rfl⟩, ⟨rfl, rfl⟩, ⟨Nat.le_of_ble_eq_true rfl, Nat.le_of_ble_eq_true rfl⟩, Nat.le_of_ble_eq_true rfl, rfl, rfl⟩ rfl rfl rfl
  refine j_aload_n dX0_cancel_5 0 rfl ?_
  refine j_iload_n dX0_cancel_6 1 rfl ?_
  refine j_iconst (v := nI 4) dX0_cancel_7 (by decide) ?_
  refine j_V (w2 := EW D E (waF s c)) (st2 := [.int (gC (waF s c) c 4)]) (c_X0_ofChannel E (waF s c) c 4 (by omega) (by omega)) rfl cw_X0_73 dX0_cancel_8 [] rfl [0, 1, 2, 3, 4] rfl rfl rfl 0 ?_ ⟨rfl, ⟨Nat.le_of_ble_eq_true rfl, Nat.le_of_ble_eq_true rfl⟩, ⟨rfl, rfl⟩, ⟨Nat.le_of_ble_eq_true rfl, Nat.le_of_ble_eq_true rfl⟩, Nat.le_of_ble_eq_true rfl, rfl, rfl⟩ rfl rfl rfl
  refine j_topi (v := nI (hd (waF s c) c)) (((Inv_wa hI).hd_ hc).1) ?_
  refine j_istore_n (lv2 := [(0, .ref (E 0)), (1, .int (nI c)), (2, .int (nI (hd (waF s c) c)))]) dX0_cancel_11 (by decide) [1, 2, 0] rfl ?_
  refine j_iconst (v := nI 0) dX0_cancel_12 (by decide) ?_
  refine j_istore_n (lv2 := [(0, .ref (E 0)), (1, .int (nI c)), (2, .int (nI (hd (waF s c) c))), (3, .int (nI 0))]) dX0_cancel_13 (by decide) [1, 2, 3, 0] rfl ?_
  refine j_iconst (v := nI 1) dX0_cancel_14 (by decide) ?_
  refine j_topi (v := bI true) rfl ?_
  refine j_istore (lv2 := [(0, .ref (E 0)), (1, .int (nI c)), (2, .int (nI (hd (waF s c) c))), (3, .int (nI 0)), (4, .int (bI true))]) dX0_cancel_15 (by decide) [1, 2, 3, 4, 0] rfl ?_
  refine j_iconst (v := nI 0) dX0_cancel_17 (by decide) ?_
  refine j_istore (lv2 := [(0, .ref (E 0)), (1, .int (nI c)), (2, .int (nI (hd (waF s c) c))), (3, .int (nI 0)), (4, .int (bI true)), (5, .int (nI 0))]) dX0_cancel_18 (by decide) [1, 2, 3, 4, 5, 0] rfl ?_
  have L20 : ∀ (fuel : Nat) (i : Nat) (t : SS) (h : Nat) (a : Int32) (g : Bool), i ≤ 6 → h < 6 → cnS s c = (if g = true then caN (6 - i) t c h a else (t, h, a)) → 6 - i < fuel → J D Γ yX0_cancel cX0_cancel 7 (some .int) ({ frames := 3, cells := 0, slots := 0, locals := 69 } : Room) (Qf D Γ ({ frames := 3, cells := 0, slots := 0, locals := 69 } : Room) (fun v_ u_ => v_ = some (.int (cnA s c)) ∧ u_ = EW D E (cnF s c))) 0 0 (EW D E t) 20 [(0, .ref (E 0)), (1, .int (nI c)), (2, .int (nI h)), (3, .int a), (4, .int (bI g)), (5, .int (nI i))] [] := by
    intro fuel
    induction fuel with
    | zero => intro i t h a g hi hh he hm; exact absurd hm (Nat.not_lt_zero _)
    | succ fuel ih =>
      intro i t h a g hi hh he hm
      refine j_iload dX0_cancel_20 5 rfl ?_
      refine j_bipush (v := nI 6) dX0_cancel_22 (by decide) ?_
      refine j_icmp_ge_N (tgt := 110) dX0_cancel_24 (by decide) ⟨by omega, by omega⟩ (fun h24 => ?_) (fun h24 => ?_)
      · skip
        refine j_aload_n dX0_cancel_110 0 rfl ?_
        refine j_iload_n dX0_cancel_111 1 rfl ?_
        refine j_iconst (v := nI 4) dX0_cancel_112 (by decide) ?_
        refine j_iload_n dX0_cancel_113 2 rfl ?_
        refine j_V (w2 := EW D E (upd t (64 + 7 * c + 4) (nI h))) (st2 := []) (c_X0_setChannel E t c 4 (nI h) (by omega) (by omega)) rfl cw_X0_91 dX0_cancel_114 [] rfl [0, 1, 2, 3, 4] rfl rfl rfl 0 ?_ ⟨rfl, ⟨Nat.le_of_ble_eq_true rfl, Nat.le_of_ble_eq_true rfl⟩, ⟨rfl, rfl⟩, ⟨Nat.le_of_ble_eq_true rfl, Nat.le_of_ble_eq_true rfl⟩, Nat.le_of_ble_eq_true rfl, rfl, rfl⟩ rfl rfl rfl
        refine j_iload_n dX0_cancel_117 3 rfl ?_
        exact j_iret dX0_cancel_118 ⟨rfl, rfl⟩ ⟨by rw [show cnA s c = a from by unfold cnA; rw [he]; cases g <;> simp [show 6 - i = 0 by omega, caN]], by rw [show cnF s c = upd t (64 + 7 * c + 4) (nI h) from by unfold cnF; rw [he]; cases g <;> simp [show 6 - i = 0 by omega, caN]]⟩
      · skip
        refine j_iload dX0_cancel_27 4 rfl ?_
        refine j_if_eq_B (tgt := 110) dX0_cancel_29 (by decide) (fun h29 => ?_) (fun h29 => ?_)
        · skip
          refine j_aload_n dX0_cancel_110 0 rfl ?_
          refine j_iload_n dX0_cancel_111 1 rfl ?_
          refine j_iconst (v := nI 4) dX0_cancel_112 (by decide) ?_
          refine j_iload_n dX0_cancel_113 2 rfl ?_
          refine j_V (w2 := EW D E (upd t (64 + 7 * c + 4) (nI h))) (st2 := []) (c_X0_setChannel E t c 4 (nI h) (by omega) (by omega)) rfl cw_X0_91 dX0_cancel_114 [] rfl [0, 1, 2, 3, 4] rfl rfl rfl 0 ?_ ⟨rfl, ⟨Nat.le_of_ble_eq_true rfl, Nat.le_of_ble_eq_true rfl⟩, ⟨rfl, rfl⟩, ⟨Nat.le_of_ble_eq_true rfl, Nat.le_of_ble_eq_true rfl⟩, Nat.le_of_ble_eq_true rfl, rfl, rfl⟩ rfl rfl rfl
          refine j_iload_n dX0_cancel_117 3 rfl ?_
          exact j_iret dX0_cancel_118 ⟨rfl, rfl⟩ ⟨by rw [show cnA s c = a from by unfold cnA; rw [he, h29]; rfl], by rw [show cnF s c = upd t (64 + 7 * c + 4) (nI h) from by unfold cnF; rw [he, h29]; rfl]⟩
        · skip
          refine j_iload_n dX0_cancel_32 1 rfl ?_
          refine j_iload_n dX0_cancel_33 2 rfl ?_
          refine j_S (w2 := EW D E t) (st2 := [.int (nI (c * 6 + h))]) (c_X0_placeOf c h) rfl cw_X0_64 dX0_cancel_34 [] rfl [] rfl rfl rfl ?_ ⟨rfl, ⟨Nat.le_of_ble_eq_true rfl, Nat.le_of_ble_eq_true rfl⟩, ⟨rfl, rfl⟩, ⟨Nat.le_of_ble_eq_true rfl, Nat.le_of_ble_eq_true rfl⟩, Nat.le_of_ble_eq_true rfl, rfl, rfl⟩
          refine j_istore (lv2 := [(0, .ref (E 0)), (1, .int (nI c)), (2, .int (nI h)), (3, .int a), (4, .int (bI g)), (5, .int (nI i)), (6, .int (nI (c * 6 + h)))]) dX0_cancel_37 (by decide) [1, 2, 3, 4, 5, 6, 0] rfl ?_
          refine j_iload_n dX0_cancel_39 3 rfl ?_
          refine j_aload_n dX0_cancel_40 0 rfl ?_
          refine j_iload dX0_cancel_41 6 rfl ?_
          refine j_bipush (v := nI 11) dX0_cancel_43 (by decide) ?_
          refine j_V (w2 := EW D E t) (st2 := [.int (gL t (c * 6 + h) 11), .int a]) (c_X0_ofLetter E t (c * 6 + h) 11 (by omega) (by omega)) rfl cw_X0_40 dX0_cancel_45 [.int a] rfl [0, 1, 2, 3, 4] rfl rfl rfl 0 ?_ ⟨rfl, ⟨Nat.le_of_ble_eq_true rfl, Nat.le_of_ble_eq_true rfl⟩, ⟨rfl, rfl⟩, ⟨Nat.le_of_ble_eq_true rfl, Nat.le_of_ble_eq_true rfl⟩, Nat.le_of_ble_eq_true rfl, rfl, rfl⟩ rfl rfl rfl
          refine j_iadd (v := a + (gL t (c * 6 + h) 11)) dX0_cancel_48 (rfl) ?_
          refine j_istore_n (lv2 := [(0, .ref (E 0)), (1, .int (nI c)), (2, .int (nI h)), (3, .int (a + (gL t (c * 6 + h) 11))), (4, .int (bI g)), (5, .int (nI i)), (6, .int (nI (c * 6 + h)))]) dX0_cancel_49 (by decide) [1, 2, 3, 0, 4, 5, 6] rfl ?_
          refine j_aload_n dX0_cancel_50 0 rfl ?_
          refine j_iload dX0_cancel_51 6 rfl ?_
          refine j_bipush (v := nI 9) dX0_cancel_53 (by decide) ?_
          refine j_iconst (v := nI 0) dX0_cancel_55 (by decide) ?_
          refine j_V (w2 := EW D E (upd t (93 + 14 * (c * 6 + h) + 9) (nI 0))) (st2 := []) (c_X0_setLetter E t (c * 6 + h) 9 (nI 0) (by omega) (by omega)) rfl cw_X0_95 dX0_cancel_56 [] rfl [0, 1, 2, 3, 4] rfl rfl rfl 0 ?_ ⟨rfl, ⟨Nat.le_of_ble_eq_true rfl, Nat.le_of_ble_eq_true rfl⟩, ⟨rfl, rfl⟩, ⟨Nat.le_of_ble_eq_true rfl, Nat.le_of_ble_eq_true rfl⟩, Nat.le_of_ble_eq_true rfl, rfl, rfl⟩ rfl rfl rfl
          refine j_aload_n dX0_cancel_59 0 rfl ?_
          refine j_iload dX0_cancel_60 6 rfl ?_
          refine j_bipush (v := nI 10) dX0_cancel_62 (by decide) ?_
          refine j_iconst (v := nI 2) dX0_cancel_64 (by decide) ?_
          refine j_V (w2 := EW D E (upd (upd t (93 + 14 * (c * 6 + h) + 9) (nI 0)) (93 + 14 * (c * 6 + h) + 10) (nI 2))) (st2 := []) (c_X0_setLetter E (upd t (93 + 14 * (c * 6 + h) + 9) (nI 0)) (c * 6 + h) 10 (nI 2) (by omega) (by omega)) rfl cw_X0_95 dX0_cancel_65 [] rfl [0, 1, 2, 3, 4] rfl rfl rfl 0 ?_ ⟨rfl, ⟨Nat.le_of_ble_eq_true rfl, Nat.le_of_ble_eq_true rfl⟩, ⟨rfl, rfl⟩, ⟨Nat.le_of_ble_eq_true rfl, Nat.le_of_ble_eq_true rfl⟩, Nat.le_of_ble_eq_true rfl, rfl, rfl⟩ rfl rfl rfl
          refine j_w (w2 := EW D E (ca1 t (c * 6 + h))) (rfl) ?_
          refine j_iload_n dX0_cancel_68 2 rfl ?_
          refine j_S (w2 := EW D E (ca1 t (c * 6 + h))) (st2 := [.int (nI ((h + 1) % 6))]) (c_X0_slotBehind h (by omega)) rfl cw_X0_98 dX0_cancel_69 [] rfl [] rfl rfl rfl ?_ ⟨rfl, ⟨Nat.le_of_ble_eq_true rfl, Nat.le_of_ble_eq_true rfl⟩, ⟨rfl, rfl⟩, ⟨Nat.le_of_ble_eq_true rfl, Nat.le_of_ble_eq_true rfl⟩, Nat.le_of_ble_eq_true rfl, rfl, rfl⟩
          refine j_istore_n (lv2 := [(0, .ref (E 0)), (1, .int (nI c)), (2, .int (nI ((h + 1) % 6))), (3, .int (a + (gL t (c * 6 + h) 11))), (4, .int (bI g)), (5, .int (nI i)), (6, .int (nI (c * 6 + h)))]) dX0_cancel_72 (by decide) [1, 2, 0, 3, 4, 5, 6] rfl ?_
          refine j_aload_n dX0_cancel_73 0 rfl ?_
          refine j_iload dX0_cancel_74 6 rfl ?_
          refine j_bipush (v := nI 8) dX0_cancel_76 (by decide) ?_
          refine j_V (w2 := EW D E (ca1 t (c * 6 + h))) (st2 := [.int (gL (ca1 t (c * 6 + h)) (c * 6 + h) 8)]) (c_X0_ofLetter E (ca1 t (c * 6 + h)) (c * 6 + h) 8 (by omega) (by omega)) rfl cw_X0_40 dX0_cancel_78 [] rfl [0, 1, 2, 3, 4] rfl rfl rfl 0 ?_ ⟨rfl, ⟨Nat.le_of_ble_eq_true rfl, Nat.le_of_ble_eq_true rfl⟩, ⟨rfl, rfl⟩, ⟨Nat.le_of_ble_eq_true rfl, Nat.le_of_ble_eq_true rfl⟩, Nat.le_of_ble_eq_true rfl, rfl, rfl⟩ rfl rfl rfl
          refine j_iconst (v := nI 1) dX0_cancel_81 (by decide) ?_
          refine j_icmp_ne (tgt := 101) dX0_cancel_82 (by decide) (fun h82 => ?_) (fun h82 => ?_)
          · skip
            refine j_iconst (v := nI 0) dX0_cancel_101 (by decide) ?_
            refine j_topi (v := bI false) rfl ?_
            refine j_istore (lv2 := [(0, .ref (E 0)), (1, .int (nI c)), (2, .int (nI ((h + 1) % 6))), (3, .int (a + (gL t (c * 6 + h) 11))), (4, .int (bI false)), (5, .int (nI i)), (6, .int (nI (c * 6 + h)))]) dX0_cancel_102 (by decide) [1, 2, 3, 4, 0, 5, 6] rfl ?_
            refine j_iinc (v := nI (i + 1)) (lv2 := [(0, .ref (E 0)), (1, .int (nI c)), (2, .int (nI ((h + 1) % 6))), (3, .int (a + (gL t (c * 6 + h) 11))), (4, .int (bI false)), (5, .int (nI (i + 1))), (6, .int (nI (c * 6 + h)))]) dX0_cancel_104 5 rfl (nI_1 _) (by decide) [1, 2, 3, 4, 5, 0, 6] rfl ?_
            refine j_goto (tgt := 20) dX0_cancel_107 (by decide) ?_
            refine j_lv (lv2 := [(0, .ref (E 0)), (1, .int (nI c)), (2, .int (nI ((h + 1) % 6))), (3, .int (a + (gL t (c * 6 + h) 11))), (4, .int (bI false)), (5, .int (nI (i + 1)))]) [0, 1, 2, 3, 4, 5] rfl ?_
            exact ih (i + 1) (ca1 t (c * 6 + h)) ((h + 1) % 6) (a + gL t (c * 6 + h) 11) false (by omega) (Nat.mod_lt _ (by decide)) (by rw [he, if_pos h29, show 6 - i = (6 - (i + 1)) + 1 by omega]; exact caN_n (fun q => h82 q.1)) (by omega)
          · skip
            refine j_aload_n dX0_cancel_85 0 rfl ?_
            refine j_iload_n dX0_cancel_86 1 rfl ?_
            refine j_iload_n dX0_cancel_87 2 rfl ?_
            refine j_S (w2 := EW D E (ca1 t (c * 6 + h))) (st2 := [.int (nI (c * 6 + ((h + 1) % 6))), .ref (E 0)]) (c_X0_placeOf c ((h + 1) % 6)) rfl cw_X0_64 dX0_cancel_88 [.ref (E 0)] rfl [] rfl rfl rfl ?_ ⟨rfl, ⟨Nat.le_of_ble_eq_true rfl, Nat.le_of_ble_eq_true rfl⟩, ⟨rfl, rfl⟩, ⟨Nat.le_of_ble_eq_true rfl, Nat.le_of_ble_eq_true rfl⟩, Nat.le_of_ble_eq_true rfl, rfl, rfl⟩
            refine j_V (w2 := EW D E (ca1 t (c * 6 + h))) (st2 := [.int (bI (eng (ca1 t (c * 6 + h)) (c * 6 + ((h + 1) % 6))))]) (c_X0_isEngines E (ca1 t (c * 6 + h)) (c * 6 + ((h + 1) % 6)) (by omega)) rfl cw_X0_67 dX0_cancel_91 [] rfl [0, 1, 2, 3, 4] rfl rfl rfl 0 ?_ ⟨rfl, ⟨Nat.le_of_ble_eq_true rfl, Nat.le_of_ble_eq_true rfl⟩, ⟨rfl, rfl⟩, ⟨Nat.le_of_ble_eq_true rfl, Nat.le_of_ble_eq_true rfl⟩, Nat.le_of_ble_eq_true rfl, rfl, rfl⟩ rfl rfl rfl
            refine j_if_eq_B (tgt := 101) dX0_cancel_94 (by decide) (fun h94 => ?_) (fun h94 => ?_)
            · skip
              refine j_iconst (v := nI 0) dX0_cancel_101 (by decide) ?_
              refine j_topi (v := bI false) rfl ?_
              refine j_istore (lv2 := [(0, .ref (E 0)), (1, .int (nI c)), (2, .int (nI ((h + 1) % 6))), (3, .int (a + (gL t (c * 6 + h) 11))), (4, .int (bI false)), (5, .int (nI i)), (6, .int (nI (c * 6 + h)))]) dX0_cancel_102 (by decide) [1, 2, 3, 4, 0, 5, 6] rfl ?_
              refine j_iinc (v := nI (i + 1)) (lv2 := [(0, .ref (E 0)), (1, .int (nI c)), (2, .int (nI ((h + 1) % 6))), (3, .int (a + (gL t (c * 6 + h) 11))), (4, .int (bI false)), (5, .int (nI (i + 1))), (6, .int (nI (c * 6 + h)))]) dX0_cancel_104 5 rfl (nI_1 _) (by decide) [1, 2, 3, 4, 5, 0, 6] rfl ?_
              refine j_goto (tgt := 20) dX0_cancel_107 (by decide) ?_
              refine j_lv (lv2 := [(0, .ref (E 0)), (1, .int (nI c)), (2, .int (nI ((h + 1) % 6))), (3, .int (a + (gL t (c * 6 + h) 11))), (4, .int (bI false)), (5, .int (nI (i + 1)))]) [0, 1, 2, 3, 4, 5] rfl ?_
              exact ih (i + 1) (ca1 t (c * 6 + h)) ((h + 1) % 6) (a + gL t (c * 6 + h) 11) false (by omega) (Nat.mod_lt _ (by decide)) (by rw [he, if_pos h29, show 6 - i = (6 - (i + 1)) + 1 by omega]; exact caN_n (fun q => absurd q.2 (by rw [h94]; decide))) (by omega)
            · skip
              refine j_iconst (v := nI 1) dX0_cancel_97 (by decide) ?_
              refine j_goto (tgt := 102) dX0_cancel_98 (by decide) ?_
              refine j_topi (v := bI true) rfl ?_
              refine j_istore (lv2 := [(0, .ref (E 0)), (1, .int (nI c)), (2, .int (nI ((h + 1) % 6))), (3, .int (a + (gL t (c * 6 + h) 11))), (4, .int (bI true)), (5, .int (nI i)), (6, .int (nI (c * 6 + h)))]) dX0_cancel_102 (by decide) [1, 2, 3, 4, 0, 5, 6] rfl ?_
              refine j_iinc (v := nI (i + 1)) (lv2 := [(0, .ref (E 0)), (1, .int (nI c)), (2, .int (nI ((h + 1) % 6))), (3, .int (a + (gL t (c * 6 + h) 11))), (4, .int (bI true)), (5, .int (nI (i + 1))), (6, .int (nI (c * 6 + h)))]) dX0_cancel_104 5 rfl (nI_1 _) (by decide) [1, 2, 3, 4, 5, 0, 6] rfl ?_
              refine j_goto (tgt := 20) dX0_cancel_107 (by decide) ?_
              refine j_lv (lv2 := [(0, .ref (E 0)), (1, .int (nI c)), (2, .int (nI ((h + 1) % 6))), (3, .int (a + (gL t (c * 6 + h) 11))), (4, .int (bI true)), (5, .int (nI (i + 1)))]) [0, 1, 2, 3, 4, 5] rfl ?_
              exact ih (i + 1) (ca1 t (c * 6 + h)) ((h + 1) % 6) (a + gL t (c * 6 + h) 11) true (by omega) (Nat.mod_lt _ (by decide)) (by rw [he, if_pos h29, show 6 - i = (6 - (i + 1)) + 1 by omega]; exact caN_y h82 h94) (by omega)
  exact L20 7 0 (waF s c) (hd (waF s c) c) 0 true (by omega) ((Inv_wa hI).hd_ hc).2 rfl (by omega)

set_option maxHeartbeats 4000000 in
set_option maxRecDepth 100000 in
theorem c_X0_writtenBy (E : Nat → Nat) (s : SS) (hI : Inv s) (p : Nat) (hp : p < 24) (hh : s (92 + 14 * p) ≠ 0) : Ct D yX0_writtenBy cX0_writtenBy 6 (some .long) ({ frames := 2, cells := 0, slots := 0, locals := 49 } : Room) [.ref (E 0), .int (nI p)] (EW D E s) (fun v_ u_ => v_ = some (.long (wbs s p (un s p))) ∧ u_ = EW D E s) := by
  have hle := hI.le hp hh
  have hre := hle.2.2.2.2
  have hun := un_lt hle.2.1.2.2 hle.2.2.1.2.2
  obtain ⟨hn, h1, h2⟩ := hle.2.1
  refine ct_of (by decide) (Nat.le_of_ble_eq_true rfl) (lv0 := [(0, .ref (E 0)), (1, .int (nI p))]) rfl (fun Γ => ?_)
  refine j_lconst (v := 0) dX0_writtenBy_0 (by decide) ?_
  refine j_lstore_n (lv2 := [(0, .ref (E 0)), (1, .int (nI p)), (2, .long 0)]) dX0_writtenBy_1 (by decide) [1, 2, 0] rfl ?_
  refine j_aload_n dX0_writtenBy_2 0 rfl ?_
  refine j_iload_n dX0_writtenBy_3 1 rfl ?_
  refine j_V (w2 := EW D E s) (st2 := [.int (gL s p 2 * gL s p 5)]) (c_X0_unitsOf E s p (by omega)) rfl cw_X0_49 dX0_writtenBy_4 [] rfl [0, 1, 2, 3, 4] rfl rfl rfl 0 ?_ ⟨rfl, ⟨Nat.le_of_ble_eq_true rfl, Nat.le_of_ble_eq_true rfl⟩, ⟨rfl, rfl⟩, ⟨Nat.le_of_ble_eq_true rfl, Nat.le_of_ble_eq_true rfl⟩, Nat.le_of_ble_eq_true rfl, rfl, rfl⟩ rfl rfl rfl
  refine j_topi (v := nI (un s p)) (by rw [hn, hle.2.2.1.1, pk_mul]; rfl) ?_
  refine j_istore (lv2 := [(0, .ref (E 0)), (1, .int (nI p)), (2, .long 0), (4, .int (nI (un s p)))]) dX0_writtenBy_7 (by decide) [1, 2, 3, 0] rfl ?_
  refine j_iconst (v := nI 0) dX0_writtenBy_9 (by decide) ?_
  refine j_istore (lv2 := [(0, .ref (E 0)), (1, .int (nI p)), (2, .long 0), (4, .int (nI (un s p))), (5, .int (nI 0))]) dX0_writtenBy_10 (by decide) [1, 2, 3, 4, 0] rfl ?_
  have L12 : ∀ (fuel : Nat) (i : Nat), i ≤ un s p → un s p - i < fuel → J D Γ yX0_writtenBy cX0_writtenBy 6 (some .long) ({ frames := 2, cells := 0, slots := 0, locals := 49 } : Room) (Qf D Γ ({ frames := 2, cells := 0, slots := 0, locals := 49 } : Room) (fun v_ u_ => v_ = some (.long (wbs s p (un s p))) ∧ u_ = EW D E s)) 0 0 (EW D E s) 12 [(0, .ref (E 0)), (1, .int (nI p)), (2, .long (wbs s p i)), (4, .int (nI (un s p))), (5, .int (nI i))] [] := by
    intro fuel
    induction fuel with
    | zero => intro i hi hm; exact absurd hm (Nat.not_lt_zero _)
    | succ fuel ih =>
      intro i hi hm
      refine j_iload dX0_writtenBy_12 4 rfl ?_
      refine j_iload dX0_writtenBy_14 3 rfl ?_
      refine j_icmp_ge_N (tgt := 38) dX0_writtenBy_16 (by decide) ⟨by omega, by omega⟩ (fun h16 => ?_) (fun h16 => ?_)
      · skip
        refine j_lload_n dX0_writtenBy_38 2 rfl ?_
        exact j_lret dX0_writtenBy_39 ⟨rfl, rfl⟩ ⟨by rw [show i = un s p by omega], rfl⟩
      · skip
        refine j_lload_n dX0_writtenBy_19 2 rfl ?_
        refine j_lconst (v := 1) dX0_writtenBy_20 (by decide) ?_
        refine j_aload_n dX0_writtenBy_21 0 rfl ?_
        refine j_iload_n dX0_writtenBy_22 1 rfl ?_
        refine j_iload dX0_writtenBy_23 4 rfl ?_
        refine j_iconst (v := nI 1) dX0_writtenBy_25 (by decide) ?_
        refine j_V (w2 := EW D E s) (st2 := [.int (nI (ad s p i 1)), .long 1, .long (wbs s p i)]) (c_X0_addressOf E s p i 1 (by omega) hn (by omega) (by omega) (by omega) (by omega)) rfl cw_X0_53 dX0_writtenBy_26 [.long 1, .long (wbs s p i)] rfl [0, 1, 2, 3, 4] rfl rfl rfl 0 ?_ ⟨rfl, ⟨Nat.le_of_ble_eq_true rfl, Nat.le_of_ble_eq_true rfl⟩, ⟨rfl, rfl⟩, ⟨Nat.le_of_ble_eq_true rfl, Nat.le_of_ble_eq_true rfl⟩, Nat.le_of_ble_eq_true rfl, rfl, rfl⟩ rfl rfl rfl
        refine j_lshl (v := 1 <<< ((nI (ad s p i 1)).toInt64 &&& 63)) dX0_writtenBy_29 (rfl) ?_
        refine j_lor (v := wbs s p (i + 1)) dX0_writtenBy_30 (rfl) ?_
        refine j_lstore_n (lv2 := [(0, .ref (E 0)), (1, .int (nI p)), (2, .long (wbs s p (i + 1))), (4, .int (nI (un s p))), (5, .int (nI i))]) dX0_writtenBy_31 (by decide) [1, 2, 0, 3, 4] rfl ?_
        refine j_iinc (v := nI (i + 1)) (lv2 := [(0, .ref (E 0)), (1, .int (nI p)), (2, .long (wbs s p (i + 1))), (4, .int (nI (un s p))), (5, .int (nI (i + 1)))]) dX0_writtenBy_32 4 rfl (nI_1 _) (by decide) [1, 2, 3, 4, 0] rfl ?_
        refine j_goto (tgt := 12) dX0_writtenBy_35 (by decide) ?_
        exact ih (i + 1) (by omega) (by omega)
  exact L12 (un s p + 1) 0 (by omega) (by omega)

set_option maxHeartbeats 4000000 in
set_option maxRecDepth 100000 in
theorem c_X0_uncarriedBoundFor (E : Nat → Nat) (s : SS) (hI : Inv s) (p : Nat) (hp : p < 24) (hh : s (92 + 14 * p) ≠ 0) (a : Nat) (ha : a < 64) : Ct D yX0_uncarriedBoundFor cX0_uncarriedBoundFor 6 (some .int) ({ frames := 2, cells := 0, slots := 0, locals := 49 } : Room) [.ref (E 0), .int (nI p), .int (nI a)] (EW D E s) (fun v_ u_ => v_ = some (.int (nI (ucF s p a))) ∧ u_ = EW D E s) := by
  have hle := hI.le hp hh
  have hre := hle.2.2.2.2
  have hun := un_lt hle.2.1.2.2 hle.2.2.1.2.2
  obtain ⟨hn, h1, h2⟩ := hle.2.1
  refine ct_of (by decide) (Nat.le_of_ble_eq_true rfl) (lv0 := [(0, .ref (E 0)), (1, .int (nI p)), (2, .int (nI a))]) rfl (fun Γ => ?_)
  refine j_iconst (v := nI 0) dX0_uncarriedBoundFor_0 (by decide) ?_
  refine j_istore_n (lv2 := [(0, .ref (E 0)), (1, .int (nI p)), (2, .int (nI a)), (3, .int (nI 0))]) dX0_uncarriedBoundFor_1 (by decide) [1, 2, 3, 0] rfl ?_
  refine j_aload_n dX0_uncarriedBoundFor_2 0 rfl ?_
  refine j_iload_n dX0_uncarriedBoundFor_3 1 rfl ?_
  refine j_V (w2 := EW D E s) (st2 := [.int (gL s p 2 * gL s p 5)]) (c_X0_unitsOf E s p (by omega)) rfl cw_X0_49 dX0_uncarriedBoundFor_4 [] rfl [0, 1, 2, 3, 4] rfl rfl rfl 0 ?_ ⟨rfl, ⟨Nat.le_of_ble_eq_true rfl, Nat.le_of_ble_eq_true rfl⟩, ⟨rfl, rfl⟩, ⟨Nat.le_of_ble_eq_true rfl, Nat.le_of_ble_eq_true rfl⟩, Nat.le_of_ble_eq_true rfl, rfl, rfl⟩ rfl rfl rfl
  refine j_topi (v := nI (un s p)) (by rw [hn, hle.2.2.1.1, pk_mul]; rfl) ?_
  refine j_istore (lv2 := [(0, .ref (E 0)), (1, .int (nI p)), (2, .int (nI a)), (3, .int (nI 0)), (4, .int (nI (un s p)))]) dX0_uncarriedBoundFor_7 (by decide) [1, 2, 3, 4, 0] rfl ?_
  refine j_iload dX0_uncarriedBoundFor_9 4 rfl ?_
  refine j_aload_n dX0_uncarriedBoundFor_11 0 rfl ?_
  refine j_iload_n dX0_uncarriedBoundFor_12 1 rfl ?_
  refine j_bipush (v := nI 11) dX0_uncarriedBoundFor_13 (by decide) ?_
  refine j_V (w2 := EW D E s) (st2 := [.int (gL s p 11), .int (nI (un s p))]) (c_X0_ofLetter E s p 11 (by omega) (by omega)) rfl cw_X0_40 dX0_uncarriedBoundFor_15 [.int (nI (un s p))] rfl [0, 1, 2, 3, 4] rfl rfl rfl 0 ?_ ⟨rfl, ⟨Nat.le_of_ble_eq_true rfl, Nat.le_of_ble_eq_true rfl⟩, ⟨rfl, rfl⟩, ⟨Nat.le_of_ble_eq_true rfl, Nat.le_of_ble_eq_true rfl⟩, Nat.le_of_ble_eq_true rfl, rfl, rfl⟩ rfl rfl rfl
  refine j_topi (v := nI (re s p)) (hle.2.2.2.1) ?_
  refine j_isub (v := nI ((un s p) - (re s p))) dX0_uncarriedBoundFor_18 (pk_sub (by omega)) ?_
  refine j_istore (lv2 := [(0, .ref (E 0)), (1, .int (nI p)), (2, .int (nI a)), (3, .int (nI 0)), (4, .int (nI (un s p))), (5, .int (nI ((un s p) - (re s p))))]) dX0_uncarriedBoundFor_19 (by decide) [1, 2, 3, 4, 5, 0] rfl ?_
  have L21 : ∀ (fuel : Nat) (i : Nat), i ≤ re s p → re s p - i < fuel → J D Γ yX0_uncarriedBoundFor cX0_uncarriedBoundFor 6 (some .int) ({ frames := 2, cells := 0, slots := 0, locals := 49 } : Room) (Qf D Γ ({ frames := 2, cells := 0, slots := 0, locals := 49 } : Room) (fun v_ u_ => v_ = some (.int (nI (ucF s p a))) ∧ u_ = EW D E s)) 0 0 (EW D E s) 21 [(0, .ref (E 0)), (1, .int (nI p)), (2, .int (nI a)), (3, .int (nI (cnt (ucP s p a) i))), (4, .int (nI (un s p))), (5, .int (nI (un s p - re s p + i)))] [] := by
    intro fuel
    induction fuel with
    | zero => intro i hi hm; exact absurd hm (Nat.not_lt_zero _)
    | succ fuel ih =>
      intro i hi hm
      have hcn := cnt_le (ucP s p a) i
      have hal := ad_lt s p (un s p - re s p + i) 1
      refine j_iload dX0_uncarriedBoundFor_21 5 rfl ?_
      refine j_iload dX0_uncarriedBoundFor_23 4 rfl ?_
      refine j_icmp_ge_N (tgt := 49) dX0_uncarriedBoundFor_25 (by decide) ⟨by omega, by omega⟩ (fun h25 => ?_) (fun h25 => ?_)
      · skip
        refine j_iload_n dX0_uncarriedBoundFor_49 3 rfl ?_
        exact j_iret dX0_uncarriedBoundFor_50 ⟨rfl, rfl⟩ ⟨congrArg (fun z => some (Value.int (nI z))) (by show cnt _ _ = cnt _ _; rw [show i = re s p by omega]), rfl⟩
      · skip
        refine j_aload_n dX0_uncarriedBoundFor_28 0 rfl ?_
        refine j_iload_n dX0_uncarriedBoundFor_29 1 rfl ?_
        refine j_iload dX0_uncarriedBoundFor_30 5 rfl ?_
        refine j_iconst (v := nI 1) dX0_uncarriedBoundFor_32 (by decide) ?_
        refine j_V (w2 := EW D E s) (st2 := [.int (nI (ad s p (un s p - re s p + i) 1))]) (c_X0_addressOf E s p (un s p - re s p + i) 1 (by omega) hn (by omega) (by omega) (by omega) (by omega)) rfl cw_X0_53 dX0_uncarriedBoundFor_33 [] rfl [0, 1, 2, 3, 4] rfl rfl rfl 0 ?_ ⟨rfl, ⟨Nat.le_of_ble_eq_true rfl, Nat.le_of_ble_eq_true rfl⟩, ⟨rfl, rfl⟩, ⟨Nat.le_of_ble_eq_true rfl, Nat.le_of_ble_eq_true rfl⟩, Nat.le_of_ble_eq_true rfl, rfl, rfl⟩ rfl rfl rfl
        refine j_iload_n dX0_uncarriedBoundFor_36 2 rfl ?_
        refine j_icmp_ne_N (tgt := 43) dX0_uncarriedBoundFor_37 (by decide) ⟨by omega, by omega⟩ (fun h37 => ?_) (fun h37 => ?_)
        · skip
          refine j_iinc (v := nI (un s p - re s p + i + 1)) (lv2 := [(0, .ref (E 0)), (1, .int (nI p)), (2, .int (nI a)), (3, .int (nI (cnt (ucP s p a) i))), (4, .int (nI (un s p))), (5, .int (nI (un s p - re s p + i + 1)))]) dX0_uncarriedBoundFor_43 5 rfl (nI_1 _) (by decide) [1, 2, 3, 4, 5, 0] rfl ?_
          refine j_goto (tgt := 21) dX0_uncarriedBoundFor_46 (by decide) ?_
          have hh2 := ih (i + 1) (by omega) (by omega)
          rw [cnt_f (f := (ucP s p a)) (decide_eq_false h37)] at hh2
          exact hh2
        · skip
          refine j_iinc (v := nI (cnt (ucP s p a) i + 1)) (lv2 := [(0, .ref (E 0)), (1, .int (nI p)), (2, .int (nI a)), (3, .int (nI (cnt (ucP s p a) i + 1))), (4, .int (nI (un s p))), (5, .int (nI (un s p - re s p + i)))]) dX0_uncarriedBoundFor_40 3 rfl (nI_1 _) (by decide) [1, 2, 3, 0, 4, 5] rfl ?_
          refine j_iinc (v := nI (un s p - re s p + i + 1)) (lv2 := [(0, .ref (E 0)), (1, .int (nI p)), (2, .int (nI a)), (3, .int (nI (cnt (ucP s p a) i + 1))), (4, .int (nI (un s p))), (5, .int (nI (un s p - re s p + i + 1)))]) dX0_uncarriedBoundFor_43 5 rfl (nI_1 _) (by decide) [1, 2, 3, 4, 5, 0] rfl ?_
          refine j_goto (tgt := 21) dX0_uncarriedBoundFor_46 (by decide) ?_
          have hh2 := ih (i + 1) (by omega) (by omega)
          rw [cnt_t (f := (ucP s p a)) (decide_eq_true h37)] at hh2
          exact hh2
  exact L21 (re s p + 1) 0 (by omega) (by omega)

set_option maxHeartbeats 4000000 in
set_option maxRecDepth 100000 in
theorem c_X0_unitsBoundFor (E : Nat → Nat) (s : SS) (hI : Inv s) (a : Nat) (ha : a < 64) : Ct D yX0_unitsBoundFor cX0_unitsBoundFor 4 (some .int) ({ frames := 3, cells := 0, slots := 0, locals := 74 } : Room) [.ref (E 0), .int (nI a)] (EW D E s) (fun v_ u_ => v_ = some (.int (nI (lnd s a 24))) ∧ u_ = EW D E s) := by
  refine ct_of (by decide) (Nat.le_of_ble_eq_true rfl) (lv0 := [(0, .ref (E 0)), (1, .int (nI a))]) rfl (fun Γ => ?_)
  refine j_iconst (v := nI 0) dX0_unitsBoundFor_0 (by decide) ?_
  refine j_istore_n (lv2 := [(0, .ref (E 0)), (1, .int (nI a)), (2, .int (nI 0))]) dX0_unitsBoundFor_1 (by decide) [1, 2, 0] rfl ?_
  refine j_iconst (v := nI 0) dX0_unitsBoundFor_2 (by decide) ?_
  refine j_istore_n (lv2 := [(0, .ref (E 0)), (1, .int (nI a)), (2, .int (nI 0)), (3, .int (nI 0))]) dX0_unitsBoundFor_3 (by decide) [1, 2, 3, 0] rfl ?_
  have L4 : ∀ (fuel : Nat) (i : Nat), i ≤ 24 → 24 - i < fuel → J D Γ yX0_unitsBoundFor cX0_unitsBoundFor 4 (some .int) ({ frames := 3, cells := 0, slots := 0, locals := 74 } : Room) (Qf D Γ ({ frames := 3, cells := 0, slots := 0, locals := 74 } : Room) (fun v_ u_ => v_ = some (.int (nI (lnd s a 24))) ∧ u_ = EW D E s)) 0 0 (EW D E s) 4 [(0, .ref (E 0)), (1, .int (nI a)), (2, .int (nI (lnd s a i))), (3, .int (nI i))] [] := by
    intro fuel
    induction fuel with
    | zero => intro i hi hm; exact absurd hm (Nat.not_lt_zero _)
    | succ fuel ih =>
      intro i hi hm
      refine j_iload_n dX0_unitsBoundFor_4 3 rfl ?_
      refine j_bipush (v := nI 24) dX0_unitsBoundFor_5 (by decide) ?_
      refine j_icmp_ge_N (tgt := 33) dX0_unitsBoundFor_7 (by decide) ⟨by omega, by omega⟩ (fun h7 => ?_) (fun h7 => ?_)
      · skip
        refine j_iload_n dX0_unitsBoundFor_33 2 rfl ?_
        exact j_iret dX0_unitsBoundFor_34 ⟨rfl, rfl⟩ ⟨congrArg (fun z => some (Value.int (nI z))) (by rw [show i = 24 by omega]), rfl⟩
      · skip
        refine j_aload_n dX0_unitsBoundFor_10 0 rfl ?_
        refine j_iload_n dX0_unitsBoundFor_11 3 rfl ?_
        refine j_V (w2 := EW D E s) (st2 := [.int (bI (tc s i))]) (c_X0_isToCarry E s i (by omega)) rfl cw_X0_57 dX0_unitsBoundFor_12 [] rfl [0, 1, 2, 3, 4] rfl rfl rfl 0 ?_ ⟨rfl, ⟨Nat.le_of_ble_eq_true rfl, Nat.le_of_ble_eq_true rfl⟩, ⟨rfl, rfl⟩, ⟨Nat.le_of_ble_eq_true rfl, Nat.le_of_ble_eq_true rfl⟩, Nat.le_of_ble_eq_true rfl, rfl, rfl⟩ rfl rfl rfl
        refine j_if_eq_B (tgt := 27) dX0_unitsBoundFor_15 (by decide) (fun h15 => ?_) (fun h15 => ?_)
        · skip
          refine j_iinc (v := nI (i + 1)) (lv2 := [(0, .ref (E 0)), (1, .int (nI a)), (2, .int (nI (lnd s a i))), (3, .int (nI (i + 1)))]) dX0_unitsBoundFor_27 3 rfl (nI_1 _) (by decide) [1, 2, 3, 0] rfl ?_
          refine j_goto (tgt := 4) dX0_unitsBoundFor_30 (by decide) ?_
          have hh2 := ih (i + 1) (by omega) (by omega)
          rw [lnd_f h15] at hh2
          exact hh2
        · skip
          refine j_iload_n dX0_unitsBoundFor_18 2 rfl ?_
          refine j_aload_n dX0_unitsBoundFor_19 0 rfl ?_
          refine j_iload_n dX0_unitsBoundFor_20 3 rfl ?_
          refine j_iload_n dX0_unitsBoundFor_21 1 rfl ?_
          have hh := hI.tc_ (by omega) h15
          refine j_V (w2 := EW D E s) (st2 := [.int (nI (ucF s i a)), .int (nI (lnd s a i))]) (c_X0_uncarriedBoundFor E s hI i (by omega) hh a (by omega)) rfl cw_X0_61 dX0_unitsBoundFor_22 [.int (nI (lnd s a i))] rfl [0, 1, 2, 3, 4] rfl rfl rfl 0 ?_ ⟨rfl, ⟨Nat.le_of_ble_eq_true rfl, Nat.le_of_ble_eq_true rfl⟩, ⟨rfl, rfl⟩, ⟨Nat.le_of_ble_eq_true rfl, Nat.le_of_ble_eq_true rfl⟩, Nat.le_of_ble_eq_true rfl, rfl, rfl⟩ rfl rfl rfl
          refine j_iadd (v := nI (lnd s a i + (ucF s i a))) dX0_unitsBoundFor_25 (nI_add _ _) ?_
          refine j_istore_n (lv2 := [(0, .ref (E 0)), (1, .int (nI a)), (2, .int (nI (lnd s a i + (ucF s i a)))), (3, .int (nI i))]) dX0_unitsBoundFor_26 (by decide) [1, 2, 0, 3] rfl ?_
          refine j_iinc (v := nI (i + 1)) (lv2 := [(0, .ref (E 0)), (1, .int (nI a)), (2, .int (nI (lnd s a i + (ucF s i a)))), (3, .int (nI (i + 1)))]) dX0_unitsBoundFor_27 3 rfl (nI_1 _) (by decide) [1, 2, 3, 0] rfl ?_
          refine j_goto (tgt := 4) dX0_unitsBoundFor_30 (by decide) ?_
          have hh2 := ih (i + 1) (by omega) (by omega)
          rw [lnd_t h15] at hh2
          exact hh2
  exact L4 25 0 (by omega) (by omega)

end EN3
end
section
/-! the text: blanks, numbers, items -/
def inR (v lo hi : Int32) : Bool := decide (lo ≤ v) && decide (v ≤ hi)
theorem inR_t {v lo hi : Int32} (h1 : ¬ v < lo) (h2 : ¬ hi < v) : inR v lo hi = true := by simp [inR, Int32.not_lt.mp h1, Int32.not_lt.mp h2]
theorem inR_f1 {v lo hi : Int32} (h1 : v < lo) : inR v lo hi = false := by simp [inR, Int32.not_le.mpr h1]
theorem inR_f2 {v lo hi : Int32} (h1 : hi < v) : inR v lo hi = false := by simp [inR, Int32.not_le.mpr h1]
theorem inR_iff {v lo hi : Int32} : inR v lo hi = true ↔ lo ≤ v ∧ v ≤ hi := by simp [inR]
/-- what lies between two naturals is a natural -/
theorem inR_nat {v : Int32} {a b : Nat} (ha : a < 2 ^ 31) (hb : b < 2 ^ 31) (h : inR v (nI a) (nI b) = true) : nat? v a (b + 1) := by
  obtain ⟨h1, h2⟩ := inR_iff.mp h
  rw [Int32.le_iff_toInt_le] at h1 h2
  rw [nI_toInt hb] at h2
  rw [nI_toInt ha] at h1
  refine ⟨v.toInt.toNat, by omega, by omega, ?_⟩
  apply Int32.toInt_inj.mp
  rw [nI_toInt (by omega)]
  omega
def dgt (x : Int32) : Bool := inR x (nI 48) (nI 57)
section TX
variable (sg : SS) (n : Nat)
def skb : Nat → Nat → Nat
  | 0, k => k
  | f + 1, k => if k < n ∧ sg k = 32 then skb f (k + 1) else k
def sk (k : Nat) : Nat := skb sg n (n - k) k
def fgb : Nat → Nat → Nat
  | 0, _ => 0
  | f + 1, k => if k < n ∧ dgt (sg k) = true then fgb f (k + 1) + 1 else 0
def fg (k : Nat) : Nat := fgb sg n (n - k) k
def nv (k : Nat) : Nat → Int32
  | 0 => 0
  | j + 1 => nv k j * 10 + sg (k + j) - 48
def bel (k : Nat) : Bool := decide (k < n) && decide (sg k = 45)
def fsx (k : Nat) : Nat := if bel sg n k = true then k + 1 else k
def fm (k : Nat) : Nat := fg sg n (fsx sg n k)
def wf (k : Nat) : Bool := decide (1 ≤ fm sg n k) && decide (fm sg n k ≤ 3) && !(decide (sg (fsx sg n k) = 48) && (decide (1 < fm sg n k) || bel sg n k))
def nval (k : Nat) : Int32 := if bel sg n k = true then -(nv sg (fsx sg n k) (fm sg n k)) else nv sg (fsx sg n k) (fm sg n k)
def nend (k : Nat) : Nat := fsx sg n k + fm sg n k
def rdk (k : Nat) (lo hi : Int32) : Bool := wf sg n k && inR (nval sg n k) lo hi
variable (lo hi : SS)
def frl : Nat → Nat → Nat → Bool × Nat
  | 0, _, k => if sk sg n k < n ∧ sg (sk sg n k) = 59 then (true, sk sg n k + 1) else (false, sk sg n k)
  | r + 1, i, k => if rdk sg n (sk sg n k) (lo i) (hi i) = true then frl r (i + 1) (nend sg n (sk sg n k)) else (false, sk sg n k)
def fnu (base : Nat) : Nat → Nat → Nat → SS → SS
  | 0, _, _, nu => nu
  | r + 1, i, k, nu => if rdk sg n (sk sg n k) (lo i) (hi i) = true then fnu base r (i + 1) (nend sg n (sk sg n k)) (upd nu (base + i) (nval sg n (sk sg n k))) else nu
end TX
def hcn (x : Int32) : Nat := if x = 108 then 10 else if x = 102 then 2 else if x = 99 then 3 else 0
def tLL : SS := fun k => match k with
  | 3 => 1 | 4 => -9 | 5 => -9 | 6 => 1 | 7 => -20 | 8 => -20 | _ => 0
def tLM : SS := fun k => match k with
  | 0 => 3 | 1 => 63 | 2 => 63 | 3 => 16 | 4 => 9 | 5 => 9 | 6 => 4 | 7 => 20 | 8 => 20 | _ => 1
def tFL : SS := fun _ => 0
def tFM : SS := fun k => match k with
  | 0 => 63 | _ => 255
def tTL : SS := fun k => match k with
  | 2 => 1 | _ => 0
def tTM : SS := fun k => match k with
  | 0 => 3 | 1 => 3 | _ => 8
def lo3 (x : Int32) : SS := if x = 108 then tLL else if x = 102 then tFL else tTL
def hi3 (x : Int32) : SS := if x = 108 then tLM else if x = 102 then tFM else tTM
/-- an item whose head stands at k: whether it is one, and the fault's place, or where it ends -/
def itR (sg : SS) (n k : Nat) : Bool × Nat := if hcn (sg k) = 0 then (false, k) else frl sg n (lo3 (sg k)) (hi3 (sg k)) (hcn (sg k)) 0 (k + 1)
def itKd (sg : SS) (k ic : Nat) (kd : SS) : SS := if hcn (sg k) = 0 then kd else upd kd ic (sg k)
def itNu (sg : SS) (n k ic : Nat) (nu : SS) : SS := if hcn (sg k) = 0 then nu else fnu sg n (lo3 (sg k)) (hi3 (sg k)) (ic * 10) (hcn (sg k)) 0 (k + 1) nu
/-- all items from the i-th on, the next head (or the end) at k: the fault, how many -/
def prl (sg : SS) (n : Nat) : Nat → Nat → Nat → Option Nat × Nat
  | 0, i, _ => (none, i)
  | f + 1, i, k => if k < n then (if (itR sg n k).1 = true then prl sg n f (i + 1) (sk sg n (itR sg n k).2) else (some (itR sg n k).2, i)) else (none, i)
def prA (sg : SS) (n : Nat) : Option Nat × Nat := prl sg n 25 0 (sk sg n 0)
def ps (sg : SS) (n : Nat) : Nat → Nat
  | 0 => sk sg n 0
  | t + 1 => sk sg n (itR sg n (ps sg n t)).2
def npp (sg : SS) (n k0 : Nat) : Nat → Nat
  | 0 => k0
  | i + 1 => nend sg n (sk sg n (npp sg n k0 i))
/-- the j-th number of the item whose head stands at k -/
def iv (sg : SS) (n k j : Nat) : Int32 := nval sg n (sk sg n (npp sg n (k + 1) j))
section TL
variable {sg : SS} {n : Nat}
theorem sk_stop {k : Nat} (h : ¬ (k < n ∧ sg k = 32)) : sk sg n k = k := by
  unfold sk
  cases n - k with
  | zero => rfl
  | succ f => exact if_neg h
theorem sk_go {k : Nat} (h : k < n) (h2 : sg k = 32) : sk sg n k = sk sg n (k + 1) := by
  unfold sk
  rw [show n - k = (n - (k + 1)) + 1 by omega]
  exact if_pos ⟨h, h2⟩
theorem skb_le : ∀ (f k : Nat), k ≤ skb sg n f k
  | 0, k => Nat.le_refl _
  | f + 1, k => by
    unfold skb
    split
    · exact Nat.le_trans (Nat.le_succ k) (skb_le f (k + 1))
    · exact Nat.le_refl _
theorem skb_n : ∀ (f k : Nat), k ≤ n → skb sg n f k ≤ n
  | 0, k, h => h
  | f + 1, k, h => by
    unfold skb
    split
    · rename_i q; exact skb_n f (k + 1) q.1
    · exact h
theorem sk_le (k : Nat) : k ≤ sk sg n k := skb_le _ _
theorem sk_n {k : Nat} (h : k ≤ n) : sk sg n k ≤ n := skb_n _ _ h
theorem fg_stop {k : Nat} (h : ¬ (k < n ∧ dgt (sg k) = true)) : fg sg n k = 0 := by
  unfold fg
  cases n - k with
  | zero => rfl
  | succ f => exact if_neg h
theorem fg_go {k : Nat} (h : k < n) (h2 : dgt (sg k) = true) : fg sg n k = fg sg n (k + 1) + 1 := by
  unfold fg
  rw [show n - k = (n - (k + 1)) + 1 by omega]
  exact if_pos ⟨h, h2⟩
theorem fg_n : ∀ (m k : Nat), n - k = m → k ≤ n → k + fg sg n k ≤ n
  | 0, k, hm, h => by rw [fg_stop (fun q => by omega)]; exact h
  | m + 1, k, hm, h => by
    by_cases q : k < n ∧ dgt (sg k) = true
    · rw [fg_go q.1 q.2]; have := fg_n m (k + 1) (by omega) (by omega); omega
    · rw [fg_stop q]; exact h
theorem fg_le {k : Nat} (h : k ≤ n) : k + fg sg n k ≤ n := fg_n _ k rfl h
theorem fg_end : ∀ (m k : Nat), n - k = m → ¬ (k + fg sg n k < n ∧ dgt (sg (k + fg sg n k)) = true)
  | 0, k, hm => fun q => by omega
  | m + 1, k, hm => by
    by_cases q : k < n ∧ dgt (sg k) = true
    · have := fg_end m (k + 1) (by omega)
      rw [fg_go q.1 q.2, show k + (fg sg n (k + 1) + 1) = k + 1 + fg sg n (k + 1) by omega]
      exact this
    · rw [fg_stop q]; exact q
theorem bel_lt {k : Nat} (h : bel sg n k = true) : k < n ∧ sg k = 45 := by simpa [bel] using h
theorem bel_f1 {k : Nat} (h : n ≤ k) : bel sg n k = false := by simp [bel, Nat.not_lt.mpr h]
theorem bel_f2 {k : Nat} (h : ¬ sg k = 45) : bel sg n k = false := by simp [bel, h]
theorem bel_t {k : Nat} (h : k < n) (h2 : sg k = 45) : bel sg n k = true := by simp [bel, h, h2]
theorem fsx_f {k : Nat} (h : bel sg n k = false) : fsx sg n k = k := by simp [fsx, h]
theorem fsx_t {k : Nat} (h : bel sg n k = true) : fsx sg n k = k + 1 := by simp [fsx, h]
theorem fsx_le {k : Nat} (h : k ≤ n) : fsx sg n k ≤ n := by
  cases hb : bel sg n k with
  | false => rw [fsx_f hb]; exact h
  | true => rw [fsx_t hb]; exact (bel_lt hb).1
theorem nend_le {k : Nat} (h : k ≤ n) : nend sg n k ≤ n := fg_le (fsx_le h)
theorem fsx_ge {k : Nat} : k ≤ fsx sg n k := by
  cases hb : bel sg n k with
  | false => rw [fsx_f hb]; omega
  | true => rw [fsx_t hb]; omega
theorem nval_f {k : Nat} (h : bel sg n k = false) : nval sg n k = nv sg (fsx sg n k) (fm sg n k) := by simp [nval, h]
theorem nval_t {k : Nat} (h : bel sg n k = true) : nval sg n k = -(nv sg (fsx sg n k) (fm sg n k)) := by simp [nval, h]
theorem wf_iff {k : Nat} : wf sg n k = true ↔ 1 ≤ fm sg n k ∧ fm sg n k ≤ 3 ∧ ¬ (sg (fsx sg n k) = 48 ∧ (1 < fm sg n k ∨ bel sg n k = true)) := by
  simp only [wf, Bool.and_eq_true, decide_eq_true_eq, Bool.not_eq_true', Bool.and_eq_false_iff, decide_eq_false_iff_not, Bool.or_eq_false_iff, and_assoc, not_and, not_or, Bool.not_eq_true]
  constructor
  · rintro ⟨a, b, c⟩
    exact ⟨a, b, fun q => c.resolve_left (fun z => z q)⟩
  · rintro ⟨a, b, c⟩
    refine ⟨a, b, ?_⟩
    by_cases q : sg (fsx sg n k) = 48
    · exact Or.inr (c q)
    · exact Or.inl q
theorem wf_no {k : Nat} (h : ¬ (1 ≤ fm sg n k ∧ fm sg n k ≤ 3 ∧ ¬ (sg (fsx sg n k) = 48 ∧ (1 < fm sg n k ∨ bel sg n k = true)))) : wf sg n k = false := by
  cases hw : wf sg n k with
  | false => rfl
  | true => exact absurd (wf_iff.mp hw) h
theorem rdk_f1 {k : Nat} {lo hi : Int32} (h : wf sg n k = false) : rdk sg n k lo hi = false := by simp [rdk, h]
theorem rdk_f2 {k : Nat} {lo hi : Int32} (h : inR (nval sg n k) lo hi = false) : rdk sg n k lo hi = false := by simp [rdk, h]
theorem rdk_t {k : Nat} {lo hi : Int32} (h : wf sg n k = true) (h2 : inR (nval sg n k) lo hi = true) : rdk sg n k lo hi = true := by simp [rdk, h, h2]
theorem rdk_iff {k : Nat} {lo hi : Int32} : rdk sg n k lo hi = true ↔ wf sg n k = true ∧ inR (nval sg n k) lo hi = true := by simp [rdk]
end TL
end
section
abbrev TW (D : DX) (X : Nat → Nat) (sg kd nu : SS) (k n ic : Nat) : va_W := [(X 0, .inr (3, [.ref (X 1), .ref (X 2), .ref (X 3), .int (nI k), .int (nI n), .int (nI ic)])), (X 1, .inl (dI D, 120, .inl sg)), (X 2, .inl (dI D, 24, .inl kd)), (X 3, .inl (dI D, 240, .inl nu))]
def rnU (sg : SS) (n k : Nat) (lo hi : Int32) (nu : SS) (into : Nat) : SS := if rdk sg n k lo hi = true then upd nu into (nval sg n k) else nu
def rnP (sg : SS) (n k : Nat) (lo hi : Int32) : Nat := if rdk sg n k lo hi = true then nend sg n k else k
theorem rnU_t {sg nu : SS} {n k into : Nat} {lo hi : Int32} (h : rdk sg n k lo hi = true) : rnU sg n k lo hi nu into = upd nu into (nval sg n k) := if_pos h
theorem rnP_t {sg : SS} {n k : Nat} {lo hi : Int32} (h : rdk sg n k lo hi = true) : rnP sg n k lo hi = nend sg n k := if_pos h
theorem rnU_f {sg nu : SS} {n k into : Nat} {lo hi : Int32} (h : rdk sg n k lo hi = false) : rnU sg n k lo hi nu into = nu := if_neg (by rw [h]; decide)
theorem rnP_f {sg : SS} {n k : Nat} {lo hi : Int32} (h : rdk sg n k lo hi = false) : rnP sg n k lo hi = k := if_neg (by rw [h]; decide)
theorem rnW_t {D : DX} {X : Nat → Nat} {sg kd nu : SS} {n k into ic : Nat} {lo hi : Int32} (h : rdk sg n k lo hi = true) : TW D X sg kd (rnU sg n k lo hi nu into) (rnP sg n k lo hi) n ic = TW D X sg kd (upd nu into (nval sg n k)) (nend sg n k) n ic := by rw [rnU_t h, rnP_t h]
theorem rnW_f {D : DX} {X : Nat → Nat} {sg kd nu : SS} {n k into ic : Nat} {lo hi : Int32} (h : rdk sg n k lo hi = false) : TW D X sg kd (rnU sg n k lo hi nu into) (rnP sg n k lo hi) n ic = TW D X sg kd nu k n ic := by rw [rnU_f h, rnP_f h]
section TX1
variable {D : DX}
set_option maxHeartbeats 4000000 in
set_option maxRecDepth 100000 in
theorem c_X4_within (v lo hi : Int32) : Ct D yX4_within cX4_within 3 (some .boolean) ({ frames := 0, cells := 0, slots := 0, locals := 0 } : Room) [.int v, .int lo, .int hi] (([] : va_W)) (fun v_ u_ => v_ = some (.int (bI (inR v lo hi))) ∧ u_ = ([] : va_W)) := by
  refine ct_of (by decide) (Nat.le_of_ble_eq_true rfl) (lv0 := [(0, .int v), (1, .int lo), (2, .int hi)]) rfl (fun Γ => ?_)
  refine j_iload_n dX4_within_0 0 rfl ?_
  refine j_iload_n dX4_within_1 1 rfl ?_
  refine j_icmp_lt (tgt := 14) dX4_within_2 (by decide) (fun h2 => ?_) (fun h2 => ?_)
  · skip
    refine j_iconst (v := nI 0) dX4_within_14 (by decide) ?_
    exact j_zret dX4_within_15 (rfl) ⟨rfl, rfl⟩ ⟨rv_f (inR_f1 h2), rfl⟩
  · skip
    refine j_iload_n dX4_within_5 0 rfl ?_
    refine j_iload_n dX4_within_6 2 rfl ?_
    refine j_icmp_gt (tgt := 14) dX4_within_7 (by decide) (fun h7 => ?_) (fun h7 => ?_)
    · skip
      refine j_iconst (v := nI 0) dX4_within_14 (by decide) ?_
      exact j_zret dX4_within_15 (rfl) ⟨rfl, rfl⟩ ⟨rv_f (inR_f2 h7), rfl⟩
    · skip
      refine j_iconst (v := nI 1) dX4_within_10 (by decide) ?_
      refine j_goto (tgt := 15) dX4_within_11 (by decide) ?_
      exact j_zret dX4_within_15 (rfl) ⟨rfl, rfl⟩ ⟨rv_t (inR_t h2 h7), rfl⟩

set_option maxHeartbeats 4000000 in
set_option maxRecDepth 100000 in
theorem c_X4_isChannel (v : Int32) : Ct D yX4_isChannel cX4_isChannel 1 (some .boolean) ({ frames := 1, cells := 0, slots := 0, locals := 22 } : Room) [.int v] (([] : va_W)) (fun v_ u_ => v_ = some (.int (bI (inR v (nI 0) (nI 3)))) ∧ u_ = ([] : va_W)) := by
  refine ct_of (by decide) (Nat.le_of_ble_eq_true rfl) (lv0 := [(0, .int v)]) rfl (fun Γ => ?_)
  refine j_iload_n dX4_isChannel_0 0 rfl ?_
  refine j_iconst (v := nI 0) dX4_isChannel_1 (by decide) ?_
  refine j_iconst (v := nI 3) dX4_isChannel_2 (by decide) ?_
  refine j_S (w2 := ([] : va_W)) (st2 := [.int (bI (inR v (nI 0) (nI 3)))]) (c_X4_within v (nI 0) (nI 3)) rfl cw_X4_48 dX4_isChannel_3 [] rfl [] rfl rfl rfl ?_ ⟨rfl, ⟨Nat.le_of_ble_eq_true rfl, Nat.le_of_ble_eq_true rfl⟩, ⟨rfl, rfl⟩, ⟨Nat.le_of_ble_eq_true rfl, Nat.le_of_ble_eq_true rfl⟩, Nat.le_of_ble_eq_true rfl, rfl, rfl⟩
  exact j_zret dX4_isChannel_6 (nar_b _) ⟨rfl, rfl⟩ ⟨rfl, rfl⟩

set_option maxHeartbeats 4000000 in
set_option maxRecDepth 100000 in
theorem c_X4_isSlot (v z : Int32) : Ct D yX4_isSlot cX4_isSlot 2 (some .boolean) ({ frames := 2, cells := 0, slots := 0, locals := 42 } : Room) [.int v, .int z] (([] : va_W)) (fun v_ u_ => v_ = some (.int (bI (inR v (nI 0) (nI 3) && inR z (nI 0) (nI 5)))) ∧ u_ = ([] : va_W)) := by
  refine ct_of (by decide) (Nat.le_of_ble_eq_true rfl) (lv0 := [(0, .int v), (1, .int z)]) rfl (fun Γ => ?_)
  refine j_iload_n dX4_isSlot_0 0 rfl ?_
  refine j_S (w2 := ([] : va_W)) (st2 := [.int (bI (inR v (nI 0) (nI 3)))]) (c_X4_isChannel v) rfl cw_X4_85 dX4_isSlot_1 [] rfl [] rfl rfl rfl ?_ ⟨rfl, ⟨Nat.le_of_ble_eq_true rfl, Nat.le_of_ble_eq_true rfl⟩, ⟨rfl, rfl⟩, ⟨Nat.le_of_ble_eq_true rfl, Nat.le_of_ble_eq_true rfl⟩, Nat.le_of_ble_eq_true rfl, rfl, rfl⟩
  refine j_if_eq_B (tgt := 20) dX4_isSlot_4 (by decide) (fun h4 => ?_) (fun h4 => ?_)
  · skip
    refine j_iconst (v := nI 0) dX4_isSlot_20 (by decide) ?_
    exact j_zret dX4_isSlot_21 (rfl) ⟨rfl, rfl⟩ ⟨rv_f (by rw [h4]; rfl), rfl⟩
  · skip
    refine j_iload_n dX4_isSlot_7 1 rfl ?_
    refine j_iconst (v := nI 0) dX4_isSlot_8 (by decide) ?_
    refine j_iconst (v := nI 5) dX4_isSlot_9 (by decide) ?_
    refine j_S (w2 := ([] : va_W)) (st2 := [.int (bI (inR z (nI 0) (nI 5)))]) (c_X4_within z (nI 0) (nI 5)) rfl cw_X4_48 dX4_isSlot_10 [] rfl [] rfl rfl rfl ?_ ⟨rfl, ⟨Nat.le_of_ble_eq_true rfl, Nat.le_of_ble_eq_true rfl⟩, ⟨rfl, rfl⟩, ⟨Nat.le_of_ble_eq_true rfl, Nat.le_of_ble_eq_true rfl⟩, Nat.le_of_ble_eq_true rfl, rfl, rfl⟩
    refine j_if_eq_B (tgt := 20) dX4_isSlot_13 (by decide) (fun h13 => ?_) (fun h13 => ?_)
    · skip
      refine j_iconst (v := nI 0) dX4_isSlot_20 (by decide) ?_
      exact j_zret dX4_isSlot_21 (rfl) ⟨rfl, rfl⟩ ⟨rv_f (by rw [h13, Bool.and_false]), rfl⟩
    · skip
      refine j_iconst (v := nI 1) dX4_isSlot_16 (by decide) ?_
      refine j_goto (tgt := 21) dX4_isSlot_17 (by decide) ?_
      exact j_zret dX4_isSlot_21 (rfl) ⟨rfl, rfl⟩ ⟨rv_t (by rw [h4, h13]; rfl), rfl⟩

set_option maxHeartbeats 4000000 in
set_option maxRecDepth 100000 in
theorem c_X3_isFigure (v : Int32) : Ct D yX3_isFigure cX3_isFigure 1 (some .boolean) ({ frames := 1, cells := 0, slots := 0, locals := 22 } : Room) [.int v] (([] : va_W)) (fun v_ u_ => v_ = some (.int (bI (dgt v))) ∧ u_ = ([] : va_W)) := by
  refine ct_of (by decide) (Nat.le_of_ble_eq_true rfl) (lv0 := [(0, .int v)]) rfl (fun Γ => ?_)
  refine j_iload_n dX3_isFigure_0 0 rfl ?_
  refine j_bipush (v := nI 48) dX3_isFigure_1 (by decide) ?_
  refine j_bipush (v := nI 57) dX3_isFigure_3 (by decide) ?_
  refine j_N (w2 := ([] : va_W)) (st2 := [.int (bI (inR v (nI 48) (nI 57)))]) (c_X4_within v (nI 48) (nI 57)) rfl dX3_isFigure_5 [] rfl [] rfl rfl rfl ?_ ⟨rfl, ⟨Nat.le_of_ble_eq_true rfl, Nat.le_of_ble_eq_true rfl⟩, ⟨rfl, rfl⟩, ⟨Nat.le_of_ble_eq_true rfl, Nat.le_of_ble_eq_true rfl⟩, Nat.le_of_ble_eq_true rfl, rfl, rfl⟩
  exact j_zret dX3_isFigure_8 (nar_b _) ⟨rfl, rfl⟩ ⟨rfl, rfl⟩

set_option maxHeartbeats 4000000 in
set_option maxRecDepth 100000 in
theorem c_X3_kind (X : Nat → Nat) (sg kd nu : SS) (k n ic : Nat) (i : Nat) (hi : i < 24) : Ct D yX3_kind cX3_kind 2 (some .int) ({ frames := 0, cells := 0, slots := 0, locals := 0 } : Room) [.ref (X 0), .int (nI i)] (TW D X sg kd nu k n ic) (fun v_ u_ => v_ = some (.int (kd i)) ∧ u_ = TW D X sg kd nu k n ic) := by
  refine ct_of (by decide) (Nat.le_of_ble_eq_true rfl) (lv0 := [(0, .ref (X 0)), (1, .int (nI i))]) rfl (fun Γ => ?_)
  refine j_aload_n dX3_kind_0 0 rfl ?_
  refine g_X3_13 rfl dX3_kind_1 0 rfl rfl ?_
  refine j_iload_n dX3_kind_4 1 rfl ?_
  refine j_iald (v := kd i) dX3_kind_5 2 i rfl (rfl) (by omega) (Nat.le_of_ble_eq_true rfl) (rfl) ?_
  exact j_iret dX3_kind_6 ⟨rfl, rfl⟩ ⟨rfl, rfl⟩

set_option maxHeartbeats 4000000 in
set_option maxRecDepth 100000 in
theorem c_X3_number (X : Nat → Nat) (sg kd nu : SS) (k n ic : Nat) (i j : Nat) (hi : i < 24) (hj : j < 10) : Ct D yX3_number cX3_number 3 (some .int) ({ frames := 0, cells := 0, slots := 0, locals := 0 } : Room) [.ref (X 0), .int (nI i), .int (nI j)] (TW D X sg kd nu k n ic) (fun v_ u_ => v_ = some (.int (nu (i * 10 + j))) ∧ u_ = TW D X sg kd nu k n ic) := by
  refine ct_of (by decide) (Nat.le_of_ble_eq_true rfl) (lv0 := [(0, .ref (X 0)), (1, .int (nI i)), (2, .int (nI j))]) rfl (fun Γ => ?_)
  refine j_aload_n dX3_number_0 0 rfl ?_
  refine g_X3_16 rfl dX3_number_1 0 rfl rfl ?_
  refine j_iload_n dX3_number_4 1 rfl ?_
  refine j_bipush (v := nI 10) dX3_number_5 (by decide) ?_
  refine j_imul (v := nI (i * 10)) dX3_number_7 (pk_mul _ _) ?_
  refine j_iload_n dX3_number_8 2 rfl ?_
  refine j_iadd (v := nI (i * 10 + j)) dX3_number_9 (nI_add _ _) ?_
  refine j_iald (v := nu (i * 10 + j)) dX3_number_10 3 (i * 10 + j) rfl (rfl) (by omega) (Nat.le_of_ble_eq_true rfl) (rfl) ?_
  exact j_iret dX3_number_11 ⟨rfl, rfl⟩ ⟨rfl, rfl⟩

set_option maxHeartbeats 4000000 in
set_option maxRecDepth 100000 in
theorem c_X3_wipe (X : Nat → Nat) (sg kd nu : SS) (k n ic : Nat) : Ct D yX3_wipe cX3_wipe 1 none ({ frames := 0, cells := 0, slots := 0, locals := 0 } : Room) [.ref (X 0)] (TW D X sg kd nu k n ic) (fun v_ u_ => v_ = none ∧ u_ = TW D X sg kd nu k 0 ic) := by
  refine ct_of (by decide) (Nat.le_of_ble_eq_true rfl) (lv0 := [(0, .ref (X 0))]) rfl (fun Γ => ?_)
  refine j_aload_n dX3_wipe_0 0 rfl ?_
  refine j_iconst (v := nI 0) dX3_wipe_1 (by decide) ?_
  refine p_X3_23 (w2 := TW D X sg kd nu k 0 ic) rfl dX3_wipe_2 0 rfl (Nat.le_of_ble_eq_true rfl) (rfl) ?_
  exact j_vret dX3_wipe_5 ⟨rfl, rfl⟩ ⟨rfl, rfl⟩

set_option maxHeartbeats 4000000 in
set_option maxRecDepth 100000 in
theorem c_X3_append (X : Nat → Nat) (sg kd nu : SS) (k n ic : Nat) (v : Int32) (hn : n < 120) : Ct D yX3_append cX3_append 2 (some .boolean) ({ frames := 0, cells := 0, slots := 0, locals := 0 } : Room) [.ref (X 0), .int v] (TW D X sg kd nu k n ic) (fun v_ u_ => v_ = some (.int (bI true)) ∧ u_ = TW D X (upd sg n v) kd nu k (n + 1) ic) := by
  refine ct_of (by decide) (Nat.le_of_ble_eq_true rfl) (lv0 := [(0, .ref (X 0)), (1, .int v)]) rfl (fun Γ => ?_)
  refine j_aload_n dX3_append_0 0 rfl ?_
  refine g_X3_23 rfl dX3_append_1 0 rfl rfl ?_
  refine j_bipush (v := nI 120) dX3_append_4 (by decide) ?_
  refine j_icmp_lt_N (tgt := 11) dX3_append_6 (by decide) ⟨by omega, by omega⟩ (fun h6 => ?_) (fun h6 => absurd hn h6)
  refine j_aload_n dX3_append_11 0 rfl ?_
  refine g_X3_9 rfl dX3_append_12 0 rfl rfl ?_
  refine j_aload_n dX3_append_15 0 rfl ?_
  refine g_X3_23 rfl dX3_append_16 0 rfl rfl ?_
  refine j_iload_n dX3_append_19 1 rfl ?_
  refine j_iast (w2 := TW D X (upd sg n v) kd nu k n ic) dX3_append_20 1 n rfl (rfl) (by omega) (Nat.le_of_ble_eq_true rfl) (rfl) ?_
  refine j_aload_n dX3_append_21 0 rfl ?_
  refine j_dup dX3_append_22 rfl ?_
  refine g_X3_23 rfl dX3_append_23 0 rfl rfl ?_
  refine j_iconst (v := nI 1) dX3_append_26 (by decide) ?_
  refine j_iadd (v := nI (n + 1)) dX3_append_27 (nI_add _ _) ?_
  refine p_X3_23 (w2 := TW D X (upd sg n v) kd nu k (n + 1) ic) rfl dX3_append_28 0 rfl (Nat.le_of_ble_eq_true rfl) (rfl) ?_
  refine j_iconst (v := nI 1) dX3_append_31 (by decide) ?_
  exact j_zret dX3_append_32 (rfl) ⟨rfl, rfl⟩ ⟨rfl, rfl⟩

set_option maxHeartbeats 4000000 in
set_option maxRecDepth 100000 in
theorem c_X3_append_full (X : Nat → Nat) (sg kd nu : SS) (k n ic : Nat) (v : Int32) (hn : n = 120) : Ct D yX3_append cX3_append 2 (some .boolean) ({ frames := 0, cells := 0, slots := 0, locals := 0 } : Room) [.ref (X 0), .int v] (TW D X sg kd nu k n ic) (fun v_ u_ => v_ = some (.int (bI false)) ∧ u_ = TW D X sg kd nu k n ic) := by
  refine ct_of (by decide) (Nat.le_of_ble_eq_true rfl) (lv0 := [(0, .ref (X 0)), (1, .int v)]) rfl (fun Γ => ?_)
  refine j_aload_n dX3_append_0 0 rfl ?_
  refine g_X3_23 rfl dX3_append_1 0 rfl rfl ?_
  refine j_bipush (v := nI 120) dX3_append_4 (by decide) ?_
  refine j_icmp_lt_N (tgt := 11) dX3_append_6 (by decide) ⟨by omega, by omega⟩ (fun h6 => absurd h6 (by omega)) (fun h6 => ?_)
  refine j_iconst (v := nI 0) dX3_append_9 (by decide) ?_
  exact j_zret dX3_append_10 (rfl) ⟨rfl, rfl⟩ ⟨rfl, rfl⟩

set_option maxHeartbeats 4000000 in
set_option maxRecDepth 100000 in
theorem c_X3_skipBlanks (X : Nat → Nat) (sg kd nu : SS) (k n ic : Nat) (hn : n ≤ 120) (hk : k ≤ n) : Ct D yX3_skipBlanks cX3_skipBlanks 1 none ({ frames := 0, cells := 0, slots := 0, locals := 0 } : Room) [.ref (X 0)] (TW D X sg kd nu k n ic) (fun v_ u_ => v_ = none ∧ u_ = TW D X sg kd nu (sk sg n k) n ic) := by
  refine ct_of (by decide) (Nat.le_of_ble_eq_true rfl) (lv0 := [(0, .ref (X 0))]) rfl (fun Γ => ?_)
  have L0 : ∀ (fuel : Nat) (j : Nat), j ≤ n → sk sg n k = sk sg n j → n - j < fuel → J D Γ yX3_skipBlanks cX3_skipBlanks 1 none ({ frames := 0, cells := 0, slots := 0, locals := 0 } : Room) (Qf D Γ ({ frames := 0, cells := 0, slots := 0, locals := 0 } : Room) (fun v_ u_ => v_ = none ∧ u_ = TW D X sg kd nu (sk sg n k) n ic)) 0 0 (TW D X sg kd nu j n ic) 0 [(0, .ref (X 0))] [] := by
    intro fuel
    induction fuel with
    | zero => intro j hj he hm; exact absurd hm (Nat.not_lt_zero _)
    | succ fuel ih =>
      intro j hj he hm
      refine j_aload_n dX3_skipBlanks_0 0 rfl ?_
      refine g_X3_19 rfl dX3_skipBlanks_1 0 rfl rfl ?_
      refine j_aload_n dX3_skipBlanks_4 0 rfl ?_
      refine g_X3_23 rfl dX3_skipBlanks_5 0 rfl rfl ?_
      refine j_icmp_ge_N (tgt := 38) dX3_skipBlanks_8 (by decide) ⟨by omega, by omega⟩ (fun h8 => ?_) (fun h8 => ?_)
      · skip
        exact j_vret dX3_skipBlanks_38 ⟨rfl, rfl⟩ ⟨rfl, by rw [he, sk_stop (fun q => by omega)]⟩
      · skip
        refine j_aload_n dX3_skipBlanks_11 0 rfl ?_
        refine g_X3_9 rfl dX3_skipBlanks_12 0 rfl rfl ?_
        refine j_aload_n dX3_skipBlanks_15 0 rfl ?_
        refine g_X3_19 rfl dX3_skipBlanks_16 0 rfl rfl ?_
        refine j_iald (v := sg j) dX3_skipBlanks_19 1 j rfl (rfl) (by omega) (Nat.le_of_ble_eq_true rfl) (rfl) ?_
        refine j_bipush (v := nI 32) dX3_skipBlanks_20 (by decide) ?_
        refine j_icmp_ne (tgt := 38) dX3_skipBlanks_22 (by decide) (fun h22 => ?_) (fun h22 => ?_)
        · skip
          exact j_vret dX3_skipBlanks_38 ⟨rfl, rfl⟩ ⟨rfl, by rw [he, sk_stop (fun q => h22 q.2)]⟩
        · skip
          refine j_aload_n dX3_skipBlanks_25 0 rfl ?_
          refine j_dup dX3_skipBlanks_26 rfl ?_
          refine g_X3_19 rfl dX3_skipBlanks_27 0 rfl rfl ?_
          refine j_iconst (v := nI 1) dX3_skipBlanks_30 (by decide) ?_
          refine j_iadd (v := nI (j + 1)) dX3_skipBlanks_31 (nI_add _ _) ?_
          refine p_X3_19 (w2 := TW D X sg kd nu (j + 1) n ic) rfl dX3_skipBlanks_32 0 rfl (Nat.le_of_ble_eq_true rfl) (rfl) ?_
          refine j_goto (tgt := 0) dX3_skipBlanks_35 (by decide) ?_
          exact ih (j + 1) (by omega) (by rw [he, sk_go (by omega) h22]) (by omega)
  exact L0 (n + 1) k hk rfl (by omega)

set_option maxHeartbeats 4000000 in
set_option maxRecDepth 100000 in
theorem c_X3_readNumber (X : Nat → Nat) (sg kd nu : SS) (k n ic : Nat) (into : Nat) (lo hi : Int32) (hn : n ≤ 120) (hk : k ≤ n) (hi0 : into < 240) : Ct D yX3_readNumber cX3_readNumber 8 (some .boolean) ({ frames := 2, cells := 0, slots := 0, locals := 42 } : Room) [.ref (X 0), .int (nI into), .int lo, .int hi] (TW D X sg kd nu k n ic) (fun v_ u_ => v_ = some (.int (bI (rdk sg n k lo hi))) ∧ u_ = TW D X sg kd (rnU sg n k lo hi nu into) (rnP sg n k lo hi) n ic) := by
  have hf1 := fsx_le (sg := sg) hk
  have hf2 := nend_le (sg := sg) hk
  unfold nend at hf2
  refine ct_of (by decide) (Nat.le_of_ble_eq_true rfl) (lv0 := [(0, .ref (X 0)), (1, .int (nI into)), (2, .int lo), (3, .int hi)]) rfl (fun Γ => ?_)
  have K157 : wf sg n k = true → J D Γ yX3_readNumber cX3_readNumber 8 (some .boolean) ({ frames := 2, cells := 0, slots := 0, locals := 42 } : Room) (Qf D Γ ({ frames := 2, cells := 0, slots := 0, locals := 42 } : Room) (fun v_ u_ => v_ = some (.int (bI (rdk sg n k lo hi))) ∧ u_ = TW D X sg kd (rnU sg n k lo hi nu into) (rnP sg n k lo hi) n ic)) 0 0 (TW D X sg kd nu k n ic) 157 [(0, .ref (X 0)), (1, .int (nI into)), (2, .int lo), (3, .int hi), (4, .int (bI (bel sg n k))), (5, .int (nI (fsx sg n k))), (6, .int (nI (fm sg n k))), (7, .int (nv sg (fsx sg n k) (min (fm sg n k) 3)))] [] := by
    intro hwf
    obtain ⟨hw1, hw2, hw3⟩ := wf_iff.mp hwf
    refine j_iload dX3_readNumber_157 4 rfl ?_
    refine j_if_eq_B (tgt := 168) dX3_readNumber_159 (by decide) (fun h159 => ?_) (fun h159 => ?_)
    · skip
      refine j_iload dX3_readNumber_168 7 rfl ?_
      refine j_topi (v := nval sg n k) (by rw [nval_f h159, show min (fm sg n k) 3 = fm sg n k by omega]) ?_
      refine j_istore (lv2 := [(0, .ref (X 0)), (1, .int (nI into)), (2, .int lo), (3, .int hi), (4, .int (bI (bel sg n k))), (5, .int (nI (fsx sg n k))), (6, .int (nI (fm sg n k))), (7, .int (nval sg n k))]) dX3_readNumber_170 (by decide) [1, 2, 3, 4, 5, 6, 7, 0] rfl ?_
      refine j_iload dX3_readNumber_172 7 rfl ?_
      refine j_iload_n dX3_readNumber_174 2 rfl ?_
      refine j_iload_n dX3_readNumber_175 3 rfl ?_
      refine j_N (w2 := TW D X sg kd nu k n ic) (st2 := [.int (bI (inR (nval sg n k) lo hi))]) (c_X4_within (nval sg n k) lo hi) rfl dX3_readNumber_176 [] rfl [] rfl rfl rfl ?_ ⟨rfl, ⟨Nat.le_of_ble_eq_true rfl, Nat.le_of_ble_eq_true rfl⟩, ⟨rfl, rfl⟩, ⟨Nat.le_of_ble_eq_true rfl, Nat.le_of_ble_eq_true rfl⟩, Nat.le_of_ble_eq_true rfl, rfl, rfl⟩
      refine j_if_ne_B (tgt := 184) dX3_readNumber_179 (by decide) (fun h179 => ?_) (fun h179 => ?_)
      · skip
        refine j_aload_n dX3_readNumber_184 0 rfl ?_
        refine g_X3_16 rfl dX3_readNumber_185 0 rfl rfl ?_
        refine j_iload_n dX3_readNumber_188 1 rfl ?_
        refine j_iload dX3_readNumber_189 7 rfl ?_
        refine j_iast (w2 := TW D X sg kd (upd nu into (nval sg n k)) k n ic) dX3_readNumber_191 3 into rfl (rfl) (by omega) (Nat.le_of_ble_eq_true rfl) (rfl) ?_
        refine j_aload_n dX3_readNumber_192 0 rfl ?_
        refine j_iload dX3_readNumber_193 5 rfl ?_
        refine j_iload dX3_readNumber_195 6 rfl ?_
        refine j_iadd (v := nI (fsx sg n k + (fm sg n k))) dX3_readNumber_197 (nI_add _ _) ?_
        refine p_X3_19 (w2 := TW D X sg kd (upd nu into (nval sg n k)) (fsx sg n k + fm sg n k) n ic) rfl dX3_readNumber_198 0 rfl (Nat.le_of_ble_eq_true rfl) (rfl) ?_
        refine j_iconst (v := nI 1) dX3_readNumber_201 (by decide) ?_
        exact j_zret dX3_readNumber_202 (rfl) ⟨rfl, rfl⟩ ⟨rv_t (rdk_t hwf h179), by rw [rnW_t (rdk_t hwf h179)]; rfl⟩
      · skip
        refine j_iconst (v := nI 0) dX3_readNumber_182 (by decide) ?_
        exact j_zret dX3_readNumber_183 (rfl) ⟨rfl, rfl⟩ ⟨rv_f (rdk_f2 h179), by rw [rnW_f (rdk_f2 h179)]⟩
    · skip
      refine j_iload dX3_readNumber_162 7 rfl ?_
      refine j_ineg (v := -(nv sg (fsx sg n k) (min (fm sg n k) 3))) dX3_readNumber_164 (rfl) ?_
      refine j_goto (tgt := 170) dX3_readNumber_165 (by decide) ?_
      refine j_topi (v := nval sg n k) (by rw [nval_t h159, show min (fm sg n k) 3 = fm sg n k by omega]) ?_
      refine j_istore (lv2 := [(0, .ref (X 0)), (1, .int (nI into)), (2, .int lo), (3, .int hi), (4, .int (bI (bel sg n k))), (5, .int (nI (fsx sg n k))), (6, .int (nI (fm sg n k))), (7, .int (nval sg n k))]) dX3_readNumber_170 (by decide) [1, 2, 3, 4, 5, 6, 7, 0] rfl ?_
      refine j_iload dX3_readNumber_172 7 rfl ?_
      refine j_iload_n dX3_readNumber_174 2 rfl ?_
      refine j_iload_n dX3_readNumber_175 3 rfl ?_
      refine j_N (w2 := TW D X sg kd nu k n ic) (st2 := [.int (bI (inR (nval sg n k) lo hi))]) (c_X4_within (nval sg n k) lo hi) rfl dX3_readNumber_176 [] rfl [] rfl rfl rfl ?_ ⟨rfl, ⟨Nat.le_of_ble_eq_true rfl, Nat.le_of_ble_eq_true rfl⟩, ⟨rfl, rfl⟩, ⟨Nat.le_of_ble_eq_true rfl, Nat.le_of_ble_eq_true rfl⟩, Nat.le_of_ble_eq_true rfl, rfl, rfl⟩
      refine j_if_ne_B (tgt := 184) dX3_readNumber_179 (by decide) (fun h179 => ?_) (fun h179 => ?_)
      · skip
        refine j_aload_n dX3_readNumber_184 0 rfl ?_
        refine g_X3_16 rfl dX3_readNumber_185 0 rfl rfl ?_
        refine j_iload_n dX3_readNumber_188 1 rfl ?_
        refine j_iload dX3_readNumber_189 7 rfl ?_
        refine j_iast (w2 := TW D X sg kd (upd nu into (nval sg n k)) k n ic) dX3_readNumber_191 3 into rfl (rfl) (by omega) (Nat.le_of_ble_eq_true rfl) (rfl) ?_
        refine j_aload_n dX3_readNumber_192 0 rfl ?_
        refine j_iload dX3_readNumber_193 5 rfl ?_
        refine j_iload dX3_readNumber_195 6 rfl ?_
        refine j_iadd (v := nI (fsx sg n k + (fm sg n k))) dX3_readNumber_197 (nI_add _ _) ?_
        refine p_X3_19 (w2 := TW D X sg kd (upd nu into (nval sg n k)) (fsx sg n k + fm sg n k) n ic) rfl dX3_readNumber_198 0 rfl (Nat.le_of_ble_eq_true rfl) (rfl) ?_
        refine j_iconst (v := nI 1) dX3_readNumber_201 (by decide) ?_
        exact j_zret dX3_readNumber_202 (rfl) ⟨rfl, rfl⟩ ⟨rv_t (rdk_t hwf h179), by rw [rnW_t (rdk_t hwf h179)]; rfl⟩
      · skip
        refine j_iconst (v := nI 0) dX3_readNumber_182 (by decide) ?_
        exact j_zret dX3_readNumber_183 (rfl) ⟨rfl, rfl⟩ ⟨rv_f (rdk_f2 h179), by rw [rnW_f (rdk_f2 h179)]⟩
  have K119 : J D Γ yX3_readNumber cX3_readNumber 8 (some .boolean) ({ frames := 2, cells := 0, slots := 0, locals := 42 } : Room) (Qf D Γ ({ frames := 2, cells := 0, slots := 0, locals := 42 } : Room) (fun v_ u_ => v_ = some (.int (bI (rdk sg n k lo hi))) ∧ u_ = TW D X sg kd (rnU sg n k lo hi nu into) (rnP sg n k lo hi) n ic)) 0 0 (TW D X sg kd nu k n ic) 119 [(0, .ref (X 0)), (1, .int (nI into)), (2, .int lo), (3, .int hi), (4, .int (bI (bel sg n k))), (5, .int (nI (fsx sg n k))), (6, .int (nI (fm sg n k))), (7, .int (nv sg (fsx sg n k) (min (fm sg n k) 3)))] [] := by
    refine j_iload dX3_readNumber_119 6 rfl ?_
    refine j_if_eq_N (tgt := 130) dX3_readNumber_121 (by decide) (by omega) (fun h121 => ?_) (fun h121 => ?_)
    · skip
      refine j_iconst (v := nI 0) dX3_readNumber_130 (by decide) ?_
      exact j_zret dX3_readNumber_131 (rfl) ⟨rfl, rfl⟩ ⟨rv_f (rdk_f1 (wf_no (fun q => by omega))), by rw [rnW_f (rdk_f1 (wf_no (fun q => by omega)))]⟩
    · skip
      refine j_iload dX3_readNumber_124 6 rfl ?_
      refine j_iconst (v := nI 3) dX3_readNumber_126 (by decide) ?_
      refine j_icmp_le_N (tgt := 132) dX3_readNumber_127 (by decide) ⟨by omega, by omega⟩ (fun h127 => ?_) (fun h127 => ?_)
      · skip
        refine j_aload_n dX3_readNumber_132 0 rfl ?_
        refine g_X3_9 rfl dX3_readNumber_133 0 rfl rfl ?_
        refine j_iload dX3_readNumber_136 5 rfl ?_
        refine j_iald (v := sg (fsx sg n k)) dX3_readNumber_138 1 (fsx sg n k) rfl (rfl) (by omega) (Nat.le_of_ble_eq_true rfl) (rfl) ?_
        refine j_bipush (v := nI 48) dX3_readNumber_139 (by decide) ?_
        refine j_icmp_ne (tgt := 157) dX3_readNumber_141 (by decide) (fun h141 => ?_) (fun h141 => ?_)
        · skip
          exact K157 (wf_iff.mpr ⟨by omega, by omega, fun q => h141 q.1⟩)
        · skip
          refine j_iload dX3_readNumber_144 6 rfl ?_
          refine j_iconst (v := nI 1) dX3_readNumber_146 (by decide) ?_
          refine j_icmp_gt_N (tgt := 155) dX3_readNumber_147 (by decide) ⟨by omega, by omega⟩ (fun h147 => ?_) (fun h147 => ?_)
          · skip
            refine j_iconst (v := nI 0) dX3_readNumber_155 (by decide) ?_
            exact j_zret dX3_readNumber_156 (rfl) ⟨rfl, rfl⟩ ⟨rv_f (rdk_f1 (wf_no (fun q => q.2.2 ⟨h141, Or.inl h147⟩))), by rw [rnW_f (rdk_f1 (wf_no (fun q => q.2.2 ⟨h141, Or.inl h147⟩)))]⟩
          · skip
            refine j_iload dX3_readNumber_150 4 rfl ?_
            refine j_if_eq_B (tgt := 157) dX3_readNumber_152 (by decide) (fun h152 => ?_) (fun h152 => ?_)
            · skip
              exact K157 (wf_iff.mpr ⟨by omega, by omega, fun q => q.2.elim (fun z => by omega) (fun z => by rw [h152] at z; cases z)⟩)
            · skip
              refine j_iconst (v := nI 0) dX3_readNumber_155 (by decide) ?_
              exact j_zret dX3_readNumber_156 (rfl) ⟨rfl, rfl⟩ ⟨rv_f (rdk_f1 (wf_no (fun q => q.2.2 ⟨h141, Or.inr h152⟩))), by rw [rnW_f (rdk_f1 (wf_no (fun q => q.2.2 ⟨h141, Or.inr h152⟩)))]⟩
      · skip
        refine j_iconst (v := nI 0) dX3_readNumber_130 (by decide) ?_
        exact j_zret dX3_readNumber_131 (rfl) ⟨rfl, rfl⟩ ⟨rv_f (rdk_f1 (wf_no (fun q => by omega))), by rw [rnW_f (rdk_f1 (wf_no (fun q => by omega)))]⟩
  have K50 : J D Γ yX3_readNumber cX3_readNumber 8 (some .boolean) ({ frames := 2, cells := 0, slots := 0, locals := 42 } : Room) (Qf D Γ ({ frames := 2, cells := 0, slots := 0, locals := 42 } : Room) (fun v_ u_ => v_ = some (.int (bI (rdk sg n k lo hi))) ∧ u_ = TW D X sg kd (rnU sg n k lo hi nu into) (rnP sg n k lo hi) n ic)) 0 0 (TW D X sg kd nu k n ic) 50 [(0, .ref (X 0)), (1, .int (nI into)), (2, .int lo), (3, .int hi), (4, .int (bI (bel sg n k)))] [.int (nI (fsx sg n k))] := by
    refine j_istore (lv2 := [(0, .ref (X 0)), (1, .int (nI into)), (2, .int lo), (3, .int hi), (4, .int (bI (bel sg n k))), (5, .int (nI (fsx sg n k)))]) dX3_readNumber_50 (by decide) [1, 2, 3, 4, 5, 0] rfl ?_
    refine j_iconst (v := nI 0) dX3_readNumber_52 (by decide) ?_
    refine j_istore (lv2 := [(0, .ref (X 0)), (1, .int (nI into)), (2, .int lo), (3, .int hi), (4, .int (bI (bel sg n k))), (5, .int (nI (fsx sg n k))), (6, .int (nI 0))]) dX3_readNumber_53 (by decide) [1, 2, 3, 4, 5, 6, 0] rfl ?_
    refine j_iconst (v := nI 0) dX3_readNumber_55 (by decide) ?_
    refine j_istore (lv2 := [(0, .ref (X 0)), (1, .int (nI into)), (2, .int lo), (3, .int hi), (4, .int (bI (bel sg n k))), (5, .int (nI (fsx sg n k))), (6, .int (nI 0)), (7, .int (nI 0))]) dX3_readNumber_56 (by decide) [1, 2, 3, 4, 5, 6, 7, 0] rfl ?_
    have L58 : ∀ (fuel : Nat) (i : Nat), fsx sg n k + i ≤ n → fm sg n k = fg sg n (fsx sg n k + i) + i → n - (fsx sg n k + i) < fuel → J D Γ yX3_readNumber cX3_readNumber 8 (some .boolean) ({ frames := 2, cells := 0, slots := 0, locals := 42 } : Room) (Qf D Γ ({ frames := 2, cells := 0, slots := 0, locals := 42 } : Room) (fun v_ u_ => v_ = some (.int (bI (rdk sg n k lo hi))) ∧ u_ = TW D X sg kd (rnU sg n k lo hi nu into) (rnP sg n k lo hi) n ic)) 0 0 (TW D X sg kd nu k n ic) 58 [(0, .ref (X 0)), (1, .int (nI into)), (2, .int lo), (3, .int hi), (4, .int (bI (bel sg n k))), (5, .int (nI (fsx sg n k))), (6, .int (nI i)), (7, .int (nv sg (fsx sg n k) (min i 3)))] [] := by
      intro fuel
      induction fuel with
      | zero => intro i hi1 he hm; exact absurd hm (Nat.not_lt_zero _)
      | succ fuel ih =>
        intro i hi1 he hm
        refine j_iload dX3_readNumber_58 5 rfl ?_
        refine j_iload dX3_readNumber_60 6 rfl ?_
        refine j_iadd (v := nI (fsx sg n k + i)) dX3_readNumber_62 (nI_add _ _) ?_
        refine j_aload_n dX3_readNumber_63 0 rfl ?_
        refine g_X3_23 rfl dX3_readNumber_64 0 rfl rfl ?_
        refine j_icmp_ge_N (tgt := 119) dX3_readNumber_67 (by decide) ⟨by omega, by omega⟩ (fun h67 => ?_) (fun h67 => ?_)
        · skip
          rw [show i = fm sg n k by rw [he, fg_stop (fun q => by omega)]; omega]
          exact K119
        · skip
          refine j_aload_n dX3_readNumber_70 0 rfl ?_
          refine g_X3_9 rfl dX3_readNumber_71 0 rfl rfl ?_
          refine j_iload dX3_readNumber_74 5 rfl ?_
          refine j_iload dX3_readNumber_76 6 rfl ?_
          refine j_iadd (v := nI (fsx sg n k + i)) dX3_readNumber_78 (nI_add _ _) ?_
          refine j_iald (v := sg (fsx sg n k + i)) dX3_readNumber_79 1 (fsx sg n k + i) rfl (rfl) (by omega) (Nat.le_of_ble_eq_true rfl) (rfl) ?_
          refine j_S (w2 := TW D X sg kd nu k n ic) (st2 := [.int (bI (dgt (sg (fsx sg n k + i))))]) (c_X3_isFigure (sg (fsx sg n k + i))) rfl cw_X3_62 dX3_readNumber_80 [] rfl [] rfl rfl rfl ?_ ⟨rfl, ⟨Nat.le_of_ble_eq_true rfl, Nat.le_of_ble_eq_true rfl⟩, ⟨rfl, rfl⟩, ⟨Nat.le_of_ble_eq_true rfl, Nat.le_of_ble_eq_true rfl⟩, Nat.le_of_ble_eq_true rfl, rfl, rfl⟩
          refine j_if_eq_B (tgt := 119) dX3_readNumber_83 (by decide) (fun h83 => ?_) (fun h83 => ?_)
          · skip
            rw [show i = fm sg n k by rw [he, fg_stop (fun q => by rw [h83] at q; exact absurd q.2 (by decide))]; omega]
            exact K119
          · skip
            refine j_iload dX3_readNumber_86 6 rfl ?_
            refine j_iconst (v := nI 3) dX3_readNumber_88 (by decide) ?_
            refine j_icmp_ge_N (tgt := 113) dX3_readNumber_89 (by decide) ⟨by omega, by omega⟩ (fun h89 => ?_) (fun h89 => ?_)
            · skip
              refine j_iinc (v := nI (i + 1)) (lv2 := [(0, .ref (X 0)), (1, .int (nI into)), (2, .int lo), (3, .int hi), (4, .int (bI (bel sg n k))), (5, .int (nI (fsx sg n k))), (6, .int (nI (i + 1))), (7, .int (nv sg (fsx sg n k) (min i 3)))]) dX3_readNumber_113 6 rfl (nI_1 _) (by decide) [1, 2, 3, 4, 5, 6, 0, 7] rfl ?_
              refine j_goto (tgt := 58) dX3_readNumber_116 (by decide) ?_
              have hh := ih (i + 1) (by omega) (by rw [he, fg_go (by omega) h83]; show fg sg n (fsx sg n k + i + 1) + 1 + i = fg sg n (fsx sg n k + i + 1) + (i + 1); omega) (by omega)
              rw [show min (i + 1) 3 = min i 3 by omega] at hh
              exact hh
            · skip
              refine j_iload dX3_readNumber_92 7 rfl ?_
              refine j_bipush (v := nI 10) dX3_readNumber_94 (by decide) ?_
              refine j_imul (v := (nv sg (fsx sg n k) (min i 3)) * (nI 10)) dX3_readNumber_96 (rfl) ?_
              refine j_aload_n dX3_readNumber_97 0 rfl ?_
              refine g_X3_9 rfl dX3_readNumber_98 0 rfl rfl ?_
              refine j_iload dX3_readNumber_101 5 rfl ?_
              refine j_iload dX3_readNumber_103 6 rfl ?_
              refine j_iadd (v := nI (fsx sg n k + i)) dX3_readNumber_105 (nI_add _ _) ?_
              refine j_iald (v := sg (fsx sg n k + i)) dX3_readNumber_106 1 (fsx sg n k + i) rfl (rfl) (by omega) (Nat.le_of_ble_eq_true rfl) (rfl) ?_
              refine j_iadd (v := ((nv sg (fsx sg n k) (min i 3)) * (nI 10)) + (sg (fsx sg n k + i))) dX3_readNumber_107 (rfl) ?_
              refine j_bipush (v := nI 48) dX3_readNumber_108 (by decide) ?_
              refine j_isub (v := (((nv sg (fsx sg n k) (min i 3)) * (nI 10)) + (sg (fsx sg n k + i))) - (nI 48)) dX3_readNumber_110 (rfl) ?_
              refine j_topi (v := nv sg (fsx sg n k) (min (i + 1) 3)) (by rw [show min (i + 1) 3 = min i 3 + 1 by omega, show min i 3 = i by omega]; rfl) ?_
              refine j_istore (lv2 := [(0, .ref (X 0)), (1, .int (nI into)), (2, .int lo), (3, .int hi), (4, .int (bI (bel sg n k))), (5, .int (nI (fsx sg n k))), (6, .int (nI i)), (7, .int (nv sg (fsx sg n k) (min (i + 1) 3)))]) dX3_readNumber_111 (by decide) [1, 2, 3, 4, 5, 6, 7, 0] rfl ?_
              refine j_iinc (v := nI (i + 1)) (lv2 := [(0, .ref (X 0)), (1, .int (nI into)), (2, .int lo), (3, .int hi), (4, .int (bI (bel sg n k))), (5, .int (nI (fsx sg n k))), (6, .int (nI (i + 1))), (7, .int (nv sg (fsx sg n k) (min (i + 1) 3)))]) dX3_readNumber_113 6 rfl (nI_1 _) (by decide) [1, 2, 3, 4, 5, 6, 0, 7] rfl ?_
              refine j_goto (tgt := 58) dX3_readNumber_116 (by decide) ?_
              exact ih (i + 1) (by omega) (by rw [he, fg_go (by omega) h83]; show fg sg n (fsx sg n k + i + 1) + 1 + i = fg sg n (fsx sg n k + i + 1) + (i + 1); omega) (by omega)
    exact L58 (n + 1) 0 (by omega) rfl (by omega)
  have K30 : J D Γ yX3_readNumber cX3_readNumber 8 (some .boolean) ({ frames := 2, cells := 0, slots := 0, locals := 42 } : Room) (Qf D Γ ({ frames := 2, cells := 0, slots := 0, locals := 42 } : Room) (fun v_ u_ => v_ = some (.int (bI (rdk sg n k lo hi))) ∧ u_ = TW D X sg kd (rnU sg n k lo hi nu into) (rnP sg n k lo hi) n ic)) 0 0 (TW D X sg kd nu k n ic) 30 [(0, .ref (X 0)), (1, .int (nI into)), (2, .int lo), (3, .int hi)] [.int (bI (bel sg n k))] := by
    refine j_istore (lv2 := [(0, .ref (X 0)), (1, .int (nI into)), (2, .int lo), (3, .int hi), (4, .int (bI (bel sg n k)))]) dX3_readNumber_30 (by decide) [1, 2, 3, 4, 0] rfl ?_
    refine j_iload dX3_readNumber_32 4 rfl ?_
    refine j_if_eq_B (tgt := 46) dX3_readNumber_34 (by decide) (fun h34 => ?_) (fun h34 => ?_)
    · skip
      refine j_aload_n dX3_readNumber_46 0 rfl ?_
      refine g_X3_19 rfl dX3_readNumber_47 0 rfl rfl ?_
      refine j_topi (v := nI (fsx sg n k)) (by rw [fsx_f h34]) ?_
      exact K50 
    · skip
      refine j_aload_n dX3_readNumber_37 0 rfl ?_
      refine g_X3_19 rfl dX3_readNumber_38 0 rfl rfl ?_
      refine j_iconst (v := nI 1) dX3_readNumber_41 (by decide) ?_
      refine j_iadd (v := nI (k + 1)) dX3_readNumber_42 (nI_add _ _) ?_
      refine j_goto (tgt := 50) dX3_readNumber_43 (by decide) ?_
      refine j_topi (v := nI (fsx sg n k)) (by rw [fsx_t h34]) ?_
      exact K50 
  refine j_aload_n dX3_readNumber_0 0 rfl ?_
  refine g_X3_19 rfl dX3_readNumber_1 0 rfl rfl ?_
  refine j_aload_n dX3_readNumber_4 0 rfl ?_
  refine g_X3_23 rfl dX3_readNumber_5 0 rfl rfl ?_
  refine j_icmp_ge_N (tgt := 29) dX3_readNumber_8 (by decide) ⟨by omega, by omega⟩ (fun h8 => ?_) (fun h8 => ?_)
  · skip
    refine j_iconst (v := nI 0) dX3_readNumber_29 (by decide) ?_
    refine j_topi (v := bI (bel sg n k)) (by rw [bel_f1 h8]; rfl) ?_
    exact K30 
  · skip
    refine j_aload_n dX3_readNumber_11 0 rfl ?_
    refine g_X3_9 rfl dX3_readNumber_12 0 rfl rfl ?_
    refine j_aload_n dX3_readNumber_15 0 rfl ?_
    refine g_X3_19 rfl dX3_readNumber_16 0 rfl rfl ?_
    refine j_iald (v := sg k) dX3_readNumber_19 1 k rfl (rfl) (by omega) (Nat.le_of_ble_eq_true rfl) (rfl) ?_
    refine j_bipush (v := nI 45) dX3_readNumber_20 (by decide) ?_
    refine j_icmp_ne (tgt := 29) dX3_readNumber_22 (by decide) (fun h22 => ?_) (fun h22 => ?_)
    · skip
      refine j_iconst (v := nI 0) dX3_readNumber_29 (by decide) ?_
      refine j_topi (v := bI (bel sg n k)) (by rw [bel_f2 h22]; rfl) ?_
      exact K30 
    · skip
      refine j_iconst (v := nI 1) dX3_readNumber_25 (by decide) ?_
      refine j_goto (tgt := 30) dX3_readNumber_26 (by decide) ?_
      refine j_topi (v := bI (bel sg n k)) (by rw [bel_t (by omega) h22]; rfl) ?_
      exact K30 

end TX1
end
section
/-! the items' lengths, and what was read of them -/
section TM
variable {sg : SS} {n : Nat}
theorem dgt_nat {x : Int32} (h : dgt x = true) : ∃ d : Nat, 48 ≤ d ∧ d < 58 ∧ x = nI d := by
  obtain ⟨j, h1, h2, h3⟩ := inR_nat (by decide) (by decide) h
  exact ⟨j, h1, by omega, h3⟩
theorem fg_pos {k : Nat} (h : 1 ≤ fg sg n k) : k < n ∧ dgt (sg k) = true := by
  by_cases q : k < n ∧ dgt (sg k) = true
  · exact q
  · rw [fg_stop q] at h; omega
theorem fg_dig : ∀ (j k : Nat), j < fg sg n k → k + j < n ∧ dgt (sg (k + j)) = true
  | 0, k, h => fg_pos h
  | j + 1, k, h => by
    have q := fg_pos (sg := sg) (n := n) (k := k) (by omega)
    rw [fg_go q.1 q.2] at h
    have := fg_dig j (k + 1) (by omega)
    rw [show k + (j + 1) = k + 1 + j by omega]
    exact this
theorem nv_nat {k : Nat} : ∀ (m : Nat), m ≤ 3 → (∀ j, j < m → dgt (sg (k + j)) = true) → ∃ v : Nat, nv sg k m = nI v ∧ v < 10 ^ m ∧ (1 ≤ m → ¬ sg k = 48 → 1 ≤ v)
  | 0, _, _ => ⟨0, rfl, by decide, fun h => absurd h (by decide)⟩
  | m + 1, hm, hd => by
    obtain ⟨v, h1, h2, h3⟩ := nv_nat m (by omega) (fun j hj => hd j (by omega))
    obtain ⟨d, d1, d2, d3⟩ := dgt_nat (hd m (by omega))
    refine ⟨v * 10 + d - 48, ?_, ?_, fun _ h0 => ?_⟩
    · show nv sg k m * 10 + sg (k + m) - 48 = _
      rw [h1, d3]
      show nI v * nI 10 + nI d - nI 48 = _
      rw [pk_mul, nI_add, pk_sub (by omega)]
    · rw [Nat.pow_succ]; omega
    · cases m with
      | zero =>
        have : ¬ d = 48 := fun e => h0 (by rw [show k = k + 0 from rfl, d3, e]; rfl)
        omega
      | succ m => have := h3 (by omega) h0; omega
theorem nv_val {k : Nat} (hw : wf sg n k = true) : ∃ v : Nat, nv sg (fsx sg n k) (fm sg n k) = nI v ∧ v < 1000 ∧ (¬ sg (fsx sg n k) = 48 → 1 ≤ v) := by
  obtain ⟨h1, h2, h3⟩ := wf_iff.mp hw
  obtain ⟨v, a, b, c⟩ := nv_nat (sg := sg) (k := fsx sg n k) (fm sg n k) h2 (fun j hj => (fg_dig j _ hj).2)
  have : 10 ^ fm sg n k ≤ 10 ^ 3 := Nat.pow_le_pow_right (by decide) h2
  exact ⟨v, a, by omega, c h1⟩
/-- a number that may not be below 0 has no sign ahead -/
theorem rdk_pos {k : Nat} {lo hi : Int32} (h : rdk sg n k lo hi = true) (h0 : 0 ≤ lo) : bel sg n k = false := by
  obtain ⟨hw, hr⟩ := rdk_iff.mp h
  cases hb : bel sg n k with
  | false => rfl
  | true =>
    exfalso
    obtain ⟨h1, h2, h3⟩ := wf_iff.mp hw
    obtain ⟨v, a, b, c⟩ := nv_val hw
    have hv := c (fun e => h3 ⟨e, Or.inr hb⟩)
    have hl := (inR_iff.mp hr).1
    rw [nval_t hb, a] at hl
    rw [Int32.le_iff_toInt_le] at hl h0
    rw [sb_negT (by omega)] at hl
    have z : (0 : Int32).toInt = 0 := rfl
    omega
theorem rdk_len {k : Nat} {lo hi : Int32} (h : rdk sg n k lo hi = true) : k + 1 ≤ nend sg n k := by
  have := (wf_iff.mp (rdk_iff.mp h).1).1
  have := fsx_ge (sg := sg) (n := n) (k := k)
  unfold nend; omega
theorem frl_len {lo hi : SS} : ∀ (r i k : Nat), (frl sg n lo hi r i k).1 = true → k + r + 1 ≤ (frl sg n lo hi r i k).2
  | 0, i, k, h => by
    unfold frl at h ⊢
    split at h
    · rename_i q; rw [if_pos q]; have := sk_le (sg := sg) (n := n) k; show _ ≤ sk sg n k + 1; omega
    · cases h
  | r + 1, i, k, h => by
    unfold frl at h ⊢
    split at h
    · rename_i q
      rw [if_pos q]
      have h1 := frl_len r (i + 1) _ h
      have h2 := rdk_len q
      have h3 := sk_le (sg := sg) (n := n) k
      omega
    · cases h
theorem frl_n {lo hi : SS} : ∀ (r i k : Nat), k ≤ n → (frl sg n lo hi r i k).2 ≤ n
  | 0, i, k, hk => by
    unfold frl
    split
    · rename_i q; exact q.1
    · exact sk_n hk
  | r + 1, i, k, hk => by
    unfold frl
    split
    · exact frl_n r (i + 1) _ (nend_le (sk_n hk))
    · exact sk_n hk
/-- two numbers that have no sign have a blank between them -/
theorem frl2_len {lo hi : SS} {k : Nat} (hl : ∀ i, 0 ≤ lo i) (h : (frl sg n lo hi 2 0 k).1 = true) : k + 4 ≤ (frl sg n lo hi 2 0 k).2 := by
  have h' := h
  unfold frl at h'
  by_cases q : rdk sg n (sk sg n k) (lo 0) (hi 0) = true
  · rw [if_pos q] at h'
    have e1 : frl sg n lo hi 2 0 k = frl sg n lo hi 1 1 (nend sg n (sk sg n k)) := if_pos q
    unfold frl at h'
    by_cases q2 : rdk sg n (sk sg n (nend sg n (sk sg n k))) (lo (0 + 1)) (hi (0 + 1)) = true
    · have e2 : frl sg n lo hi 1 1 (nend sg n (sk sg n k)) = frl sg n lo hi 0 2 (nend sg n (sk sg n (nend sg n (sk sg n k)))) := if_pos q2
      rw [e1, e2] at h ⊢
      have l0 := frl_len 0 2 _ h
      have l1 := rdk_len q
      have l2 := rdk_len q2
      have l3 := sk_le (sg := sg) (n := n) k
      have l4 := sk_le (sg := sg) (n := n) (nend sg n (sk sg n k))
      have b2 := rdk_pos q2 (hl _)
      have d2 := fg_pos (wf_iff.mp (rdk_iff.mp q2).1).1
      rw [fsx_f b2] at d2
      have hne : sk sg n (nend sg n (sk sg n k)) ≠ nend sg n (sk sg n k) := by
        intro e
        rw [e] at d2
        exact fg_end _ (fsx sg n (sk sg n k)) rfl d2
      omega
    · rw [if_neg q2] at h'; cases h'
  · rw [if_neg q] at h'; cases h'
theorem hcn_cases (x : Int32) : (x = 108 ∧ hcn x = 10 ∧ lo3 x = tLL ∧ hi3 x = tLM) ∨ (x = 102 ∧ hcn x = 2 ∧ lo3 x = tFL ∧ hi3 x = tFM) ∨ (x = 99 ∧ hcn x = 3 ∧ lo3 x = tTL ∧ hi3 x = tTM) ∨ (hcn x = 0 ∧ ¬ x = 108 ∧ ¬ x = 102 ∧ ¬ x = 99) := by
  unfold hcn lo3 hi3
  by_cases h1 : x = 108
  · exact Or.inl ⟨h1, if_pos h1, if_pos h1, if_pos h1⟩
  · rw [if_neg h1, if_neg h1, if_neg h1]
    by_cases h2 : x = 102
    · exact Or.inr (Or.inl ⟨h2, if_pos h2, if_pos h2, if_pos h2⟩)
    · rw [if_neg h2, if_neg h2, if_neg h2]
      by_cases h3 : x = 99
      · exact Or.inr (Or.inr (Or.inl ⟨h3, if_pos h3, rfl, rfl⟩))
      · exact Or.inr (Or.inr (Or.inr ⟨if_neg h3, h1, h2, h3⟩))
theorem hcn_le (x : Int32) : hcn x ≤ 10 := by rcases hcn_cases x with h | h | h | h <;> omega
theorem itR_k {k : Nat} (h : ¬ hcn (sg k) = 0) : itR sg n k = frl sg n (lo3 (sg k)) (hi3 (sg k)) (hcn (sg k)) 0 (k + 1) := if_neg h
theorem itR_0 {k : Nat} (h : hcn (sg k) = 0) : itR sg n k = (false, k) := if_pos h
theorem it_hcn {k : Nat} (h : (itR sg n k).1 = true) : ¬ hcn (sg k) = 0 := by
  intro e; rw [itR_0 e] at h; cases h
theorem it_len {k : Nat} (h : (itR sg n k).1 = true) : k + 5 ≤ (itR sg n k).2 := by
  have h0 := it_hcn h
  rw [itR_k h0] at h ⊢
  rcases hcn_cases (sg k) with q | q | q | q
  · have := frl_len _ _ _ h; omega
  · rw [q.2.1, q.2.2.1, q.2.2.2] at h ⊢
    have := frl2_len (fun i => by show (0 : Int32) ≤ 0; decide) h
    omega
  · have := frl_len _ _ _ h; omega
  · exact absurd q.1 h0
theorem it_n {k : Nat} (hk : k < n) : (itR sg n k).2 ≤ n := by
  unfold itR
  split
  · exact Nat.le_of_lt hk
  · exact frl_n _ _ _ hk
theorem npp_s {k : Nat} : ∀ j, npp sg n k (j + 1) = npp sg n (nend sg n (sk sg n k)) j
  | 0 => rfl
  | j + 1 => by show nend sg n (sk sg n (npp sg n k (j + 1))) = nend sg n (sk sg n (npp sg n _ j)); rw [npp_s j]
theorem fnu_out {lo hi : SS} {base : Nat} : ∀ (r i k : Nat) (nu : SS) {x : Nat}, x < base + i → fnu sg n lo hi base r i k nu x = nu x
  | 0, _, _, _, _, _ => rfl
  | r + 1, i, k, nu, x, hx => by
    unfold fnu
    split
    · rw [fnu_out r (i + 1) _ _ (by omega), up_ne (by omega)]
    · rfl
theorem fnu_at {lo hi : SS} {base : Nat} : ∀ (r i k : Nat) (nu : SS) (j : Nat), (frl sg n lo hi r i k).1 = true → j < r → fnu sg n lo hi base r i k nu (base + i + j) = nval sg n (sk sg n (npp sg n k j))
  | 0, _, _, _, _, _, hj => absurd hj (Nat.not_lt_zero _)
  | r + 1, i, k, nu, j, h, hj => by
    unfold frl at h
    by_cases q : rdk sg n (sk sg n k) (lo i) (hi i) = true
    · rw [if_pos q] at h
      unfold fnu
      rw [if_pos q]
      cases j with
      | zero => rw [fnu_out r (i + 1) _ _ (by omega)]; exact up_eq
      | succ j =>
        have := fnu_at (base := base) r (i + 1) (nend sg n (sk sg n k)) (upd nu (base + i) (nval sg n (sk sg n k))) j h (by omega)
        rw [npp_s, ← this, show base + i + (j + 1) = base + (i + 1) + j by omega]
    · rw [if_neg q] at h; cases h
/-- what stands in the rows behind the first m items -/
def GoodI (sg : SS) (n : Nat) (kd nu : SS) (m : Nat) : Prop := ∀ t, t < m → (itR sg n (ps sg n t)).1 = true ∧ ps sg n t < n ∧ kd t = sg (ps sg n t) ∧ ∀ j, j < hcn (sg (ps sg n t)) → nu (t * 10 + j) = iv sg n (ps sg n t) j
theorem GoodI_s {kd nu : SS} {i k : Nat} (h : GoodI sg n kd nu i) (hk : k = ps sg n i) (hok : (itR sg n k).1 = true) (hkn : k < n) : GoodI sg n (itKd sg k i kd) (itNu sg n k i nu) (i + 1) := by
  have h0 := it_hcn hok
  have e1 : itKd sg k i kd = upd kd i (sg k) := if_neg h0
  have e2 : itNu sg n k i nu = fnu sg n (lo3 (sg k)) (hi3 (sg k)) (i * 10) (hcn (sg k)) 0 (k + 1) nu := if_neg h0
  rw [e1, e2]
  intro t ht
  by_cases e : t = i
  · subst e
    rw [← hk]
    refine ⟨hok, hkn, up_eq, fun j hj => ?_⟩
    rw [itR_k h0] at hok
    exact fnu_at _ 0 _ nu j hok hj
  · obtain ⟨a, b, c, d⟩ := h t (by omega)
    refine ⟨a, b, by rw [up_ne e]; exact c, fun j hj => ?_⟩
    have := hcn_le (sg (ps sg n t))
    rw [fnu_out _ 0 _ _ (by omega)]
    exact d j hj
theorem prl_y {f i k : Nat} (h : k < n) (h2 : (itR sg n k).1 = true) : prl sg n (f + 1) i k = prl sg n f (i + 1) (sk sg n (itR sg n k).2) := by
  show (if k < n then _ else _) = _; rw [if_pos h, if_pos h2]
theorem prl_e {f i k : Nat} (h : k < n) (h2 : (itR sg n k).1 = false) : prl sg n (f + 1) i k = (some (itR sg n k).2, i) := by
  show (if k < n then _ else _) = _; rw [if_pos h, if_neg (by rw [h2]; decide)]
theorem prl_n {f i k : Nat} (h : ¬ k < n) : prl sg n (f + 1) i k = (none, i) := by
  show (if k < n then _ else _) = _; rw [if_neg h]
end TM
def rdI (sg : SS) (n : Nat) : Int32 := match (prA sg n).1 with
  | none => -1
  | some f => nI f
def zT (D : DX) (a : Nat → Nat) : Prop := ("TransferRings$Text", "LETTER_LEAST", "[I", a 0, 10, tLL) ∈ D.2.2.2 ∧ ("TransferRings$Text", "LETTER_MOST", "[I", a 1, 10, tLM) ∈ D.2.2.2 ∧ ("TransferRings$Text", "FILL_LEAST", "[I", a 2, 2, tFL) ∈ D.2.2.2 ∧ ("TransferRings$Text", "FILL_MOST", "[I", a 3, 2, tFM) ∈ D.2.2.2 ∧ ("TransferRings$Text", "TUNE_LEAST", "[I", a 4, 3, tTL) ∈ D.2.2.2 ∧ ("TransferRings$Text", "TUNE_MOST", "[I", a 5, 3, tTM) ∈ D.2.2.2
end
section
section TX0
variable {sg kd nu : SS} {n k ic : Nat}
theorem itR_e108 (h : sg k = nI 108) : itR sg n k = frl sg n tLL tLM 10 0 (k + 1) := by unfold itR hcn lo3 hi3; rw [h]; rfl
theorem itKd_e108 (h : sg k = nI 108) : itKd sg k ic kd = upd kd ic (sg k) := by unfold itKd hcn; rw [h]; rfl
theorem itNu_e108 (h : sg k = nI 108) : itNu sg n k ic nu = fnu sg n tLL tLM (ic * 10) 10 0 (k + 1) nu := by unfold itNu hcn lo3 hi3; rw [h]; rfl
theorem itR_e102 (h : sg k = nI 102) : itR sg n k = frl sg n tFL tFM 2 0 (k + 1) := by unfold itR hcn lo3 hi3; rw [h]; rfl
theorem itKd_e102 (h : sg k = nI 102) : itKd sg k ic kd = upd kd ic (sg k) := by unfold itKd hcn; rw [h]; rfl
theorem itNu_e102 (h : sg k = nI 102) : itNu sg n k ic nu = fnu sg n tFL tFM (ic * 10) 2 0 (k + 1) nu := by unfold itNu hcn lo3 hi3; rw [h]; rfl
theorem itR_e99 (h : sg k = nI 99) : itR sg n k = frl sg n tTL tTM 3 0 (k + 1) := by unfold itR hcn lo3 hi3; rw [h]; rfl
theorem itKd_e99 (h : sg k = nI 99) : itKd sg k ic kd = upd kd ic (sg k) := by unfold itKd hcn; rw [h]; rfl
theorem itNu_e99 (h : sg k = nI 99) : itNu sg n k ic nu = fnu sg n tTL tTM (ic * 10) 3 0 (k + 1) nu := by unfold itNu hcn lo3 hi3; rw [h]; rfl
theorem hcn_0 {x : Int32} (h1 : ¬ x = nI 108) (h2 : ¬ x = nI 102) (h3 : ¬ x = nI 99) : hcn x = 0 := by unfold hcn; exact (if_neg h1).trans ((if_neg h2).trans (if_neg h3))
end TX0
section TX2
variable {D : DX}
set_option maxHeartbeats 4000000 in
set_option maxRecDepth 100000 in
theorem c_X3_readForm (X : Nat → Nat) (sg kd nu : SS) (k n ic : Nat) (kind : Int32) (ta tb c : Nat) (na nb : String) (lo hi : SS) (ha : ("TransferRings$Text", na, "[I", ta, c, lo) ∈ D.2.2.2) (hb : ("TransferRings$Text", nb, "[I", tb, c, hi) ∈ D.2.2.2) (hc : c ≤ 10) (hn : n ≤ 120) (hk : k < n) (hic : ic < 24) : Ct D yX3_readForm cX3_readForm 5 (some .boolean) ({ frames := 3, cells := 0, slots := 0, locals := 69 } : Room) [.ref (X 0), .int kind, .ref ta, .ref tb] (TW D X sg kd nu k n ic) (fun v_ u_ => v_ = some (.int (bI (frl sg n lo hi c 0 (k + 1)).1)) ∧ u_ = TW D X sg (upd kd ic kind) (fnu sg n lo hi (ic * 10) c 0 (k + 1) nu) ((frl sg n lo hi c 0 (k + 1)).2) n ic) := by
  refine ct_of (by decide) (Nat.le_of_ble_eq_true rfl) (lv0 := [(0, .ref (X 0)), (1, .int kind), (2, .ref ta), (3, .ref tb)]) rfl (fun Γ => ?_)
  refine j_aload_n dX3_readForm_0 0 rfl ?_
  refine g_X3_13 rfl dX3_readForm_1 0 rfl rfl ?_
  refine j_aload_n dX3_readForm_4 0 rfl ?_
  refine g_X3_26 rfl dX3_readForm_5 0 rfl rfl ?_
  refine j_iload_n dX3_readForm_8 1 rfl ?_
  refine j_iast (w2 := TW D X sg (upd kd ic kind) nu k n ic) dX3_readForm_9 2 ic rfl (rfl) (by omega) (Nat.le_of_ble_eq_true rfl) (rfl) ?_
  refine j_aload_n dX3_readForm_10 0 rfl ?_
  refine j_dup dX3_readForm_11 rfl ?_
  refine g_X3_19 rfl dX3_readForm_12 0 rfl rfl ?_
  refine j_iconst (v := nI 1) dX3_readForm_15 (by decide) ?_
  refine j_iadd (v := nI (k + 1)) dX3_readForm_16 (nI_add _ _) ?_
  refine p_X3_19 (w2 := TW D X sg (upd kd ic kind) nu (k + 1) n ic) rfl dX3_readForm_17 0 rfl (Nat.le_of_ble_eq_true rfl) (rfl) ?_
  refine j_iconst (v := nI 0) dX3_readForm_20 (by decide) ?_
  refine j_istore (lv2 := [(0, .ref (X 0)), (1, .int kind), (2, .ref ta), (3, .ref tb), (4, .int (nI 0))]) dX3_readForm_21 (by decide) [1, 2, 3, 4, 0] rfl ?_
  have L23 : ∀ (fuel : Nat) (i k' : Nat) (nu' : SS), i ≤ c → k' ≤ n → frl sg n lo hi c 0 (k + 1) = frl sg n lo hi (c - i) i k' → fnu sg n lo hi (ic * 10) c 0 (k + 1) nu = fnu sg n lo hi (ic * 10) (c - i) i k' nu' → c - i < fuel → J D Γ yX3_readForm cX3_readForm 5 (some .boolean) ({ frames := 3, cells := 0, slots := 0, locals := 69 } : Room) (Qf D Γ ({ frames := 3, cells := 0, slots := 0, locals := 69 } : Room) (fun v_ u_ => v_ = some (.int (bI (frl sg n lo hi c 0 (k + 1)).1)) ∧ u_ = TW D X sg (upd kd ic kind) (fnu sg n lo hi (ic * 10) c 0 (k + 1) nu) ((frl sg n lo hi c 0 (k + 1)).2) n ic)) 0 0 (TW D X sg (upd kd ic kind) nu' k' n ic) 23 [(0, .ref (X 0)), (1, .int kind), (2, .ref ta), (3, .ref tb), (4, .int (nI i))] [] := by
    intro fuel
    induction fuel with
    | zero => intro i k' nu' hi1 hk' he hf hm; exact absurd hm (Nat.not_lt_zero _)
    | succ fuel ih =>
      intro i k' nu' hi1 hk' he hf hm
      have hskn : sk sg n k' ≤ n := sk_n hk'
      refine j_iload dX3_readForm_23 4 rfl ?_
      refine j_aload_n dX3_readForm_25 2 rfl ?_
      refine j_tlen (v := nI c) ha dX3_readForm_26 rfl ?_
      refine j_icmp_ge_N (tgt := 67) dX3_readForm_27 (by decide) ⟨by omega, by omega⟩ (fun h27 => ?_) (fun h27 => ?_)
      · skip
        rw [show c - i = 0 by omega] at he hf
        have hf : fnu sg n lo hi (ic * 10) c 0 (k + 1) nu = nu' := hf
        refine j_aload_n dX3_readForm_67 0 rfl ?_
        refine j_V (w2 := TW D X sg (upd kd ic kind) nu' (sk sg n k') n ic) (st2 := []) (c_X3_skipBlanks X sg (upd kd ic kind) nu' k' n ic (by omega) (by omega)) rfl cw_X3_29 dX3_readForm_68 [] rfl [0, 1, 2, 3] rfl rfl rfl 3 ?_ ⟨rfl, ⟨Nat.le_of_ble_eq_true rfl, Nat.le_of_ble_eq_true rfl⟩, ⟨rfl, rfl⟩, ⟨Nat.le_of_ble_eq_true rfl, Nat.le_of_ble_eq_true rfl⟩, Nat.le_of_ble_eq_true rfl, rfl, rfl⟩ rfl rfl rfl
        refine j_aload_n dX3_readForm_71 0 rfl ?_
        refine g_X3_19 rfl dX3_readForm_72 0 rfl rfl ?_
        refine j_aload_n dX3_readForm_75 0 rfl ?_
        refine g_X3_23 rfl dX3_readForm_76 0 rfl rfl ?_
        refine j_icmp_ge_N (tgt := 96) dX3_readForm_79 (by decide) ⟨by omega, by omega⟩ (fun h79 => ?_) (fun h79 => ?_)
        · skip
          refine j_iconst (v := nI 0) dX3_readForm_96 (by decide) ?_
          exact j_zret dX3_readForm_97 (rfl) ⟨rfl, rfl⟩ ⟨rv_f (by rw [he]; unfold frl; rw [if_neg (fun q => by omega)]), by rw [he, hf]; unfold frl; rw [if_neg (fun q => by omega)]⟩
        · skip
          refine j_aload_n dX3_readForm_82 0 rfl ?_
          refine g_X3_9 rfl dX3_readForm_83 0 rfl rfl ?_
          refine j_aload_n dX3_readForm_86 0 rfl ?_
          refine g_X3_19 rfl dX3_readForm_87 0 rfl rfl ?_
          refine j_iald (v := sg (sk sg n k')) dX3_readForm_90 1 (sk sg n k') rfl (rfl) (by omega) (Nat.le_of_ble_eq_true rfl) (rfl) ?_
          refine j_bipush (v := nI 59) dX3_readForm_91 (by decide) ?_
          refine j_icmp_eq (tgt := 98) dX3_readForm_93 (by decide) (fun h93 => ?_) (fun h93 => ?_)
          · skip
            refine j_aload_n dX3_readForm_98 0 rfl ?_
            refine j_dup dX3_readForm_99 rfl ?_
            refine g_X3_19 rfl dX3_readForm_100 0 rfl rfl ?_
            refine j_iconst (v := nI 1) dX3_readForm_103 (by decide) ?_
            refine j_iadd (v := nI ((sk sg n k') + 1)) dX3_readForm_104 (nI_add _ _) ?_
            refine p_X3_19 (w2 := TW D X sg (upd kd ic kind) nu' (sk sg n k' + 1) n ic) rfl dX3_readForm_105 0 rfl (Nat.le_of_ble_eq_true rfl) (rfl) ?_
            refine j_iconst (v := nI 1) dX3_readForm_108 (by decide) ?_
            exact j_zret dX3_readForm_109 (rfl) ⟨rfl, rfl⟩ ⟨rv_t (by rw [he]; unfold frl; rw [if_pos ⟨by omega, h93⟩]), by rw [he, hf]; unfold frl; rw [if_pos ⟨by omega, h93⟩]⟩
          · skip
            refine j_iconst (v := nI 0) dX3_readForm_96 (by decide) ?_
            exact j_zret dX3_readForm_97 (rfl) ⟨rfl, rfl⟩ ⟨rv_f (by rw [he]; unfold frl; rw [if_neg (fun q => h93 q.2)]), by rw [he, hf]; unfold frl; rw [if_neg (fun q => h93 q.2)]⟩
      · skip
        refine j_aload_n dX3_readForm_30 0 rfl ?_
        refine j_V (w2 := TW D X sg (upd kd ic kind) nu' (sk sg n k') n ic) (st2 := []) (c_X3_skipBlanks X sg (upd kd ic kind) nu' k' n ic (by omega) (by omega)) rfl cw_X3_29 dX3_readForm_31 [] rfl [0, 1, 2, 3] rfl rfl rfl 3 ?_ ⟨rfl, ⟨Nat.le_of_ble_eq_true rfl, Nat.le_of_ble_eq_true rfl⟩, ⟨rfl, rfl⟩, ⟨Nat.le_of_ble_eq_true rfl, Nat.le_of_ble_eq_true rfl⟩, Nat.le_of_ble_eq_true rfl, rfl, rfl⟩ rfl rfl rfl
        refine j_aload_n dX3_readForm_34 0 rfl ?_
        refine j_aload_n dX3_readForm_35 0 rfl ?_
        refine g_X3_26 rfl dX3_readForm_36 0 rfl rfl ?_
        refine j_bipush (v := nI 10) dX3_readForm_39 (by decide) ?_
        refine j_imul (v := nI (ic * 10)) dX3_readForm_41 (pk_mul _ _) ?_
        refine j_iload dX3_readForm_42 4 rfl ?_
        refine j_iadd (v := nI (ic * 10 + i)) dX3_readForm_44 (nI_add _ _) ?_
        refine j_aload_n dX3_readForm_45 2 rfl ?_
        refine j_iload dX3_readForm_46 4 rfl ?_
        refine j_ti (v := lo i) ha dX3_readForm_48 i rfl (show i < c by omega) (show c < 2 ^ 31 by omega) rfl ?_
        refine j_aload_n dX3_readForm_49 3 rfl ?_
        refine j_iload dX3_readForm_50 4 rfl ?_
        refine j_ti (v := hi i) hb dX3_readForm_52 i rfl (show i < c by omega) (show c < 2 ^ 31 by omega) rfl ?_
        refine j_V (w2 := TW D X sg (upd kd ic kind) (rnU sg n (sk sg n k') (lo i) (hi i) nu' (ic * 10 + i)) (rnP sg n (sk sg n k') (lo i) (hi i)) n ic) (st2 := [.int (bI (rdk sg n (sk sg n k') (lo i) (hi i)))]) (c_X3_readNumber X sg (upd kd ic kind) nu' (sk sg n k') n ic (ic * 10 + i) (lo i) (hi i) (by omega) (by omega) (by omega)) rfl cw_X3_58 dX3_readForm_53 [] rfl [0, 1, 2, 3] rfl rfl rfl 3 ?_ ⟨rfl, ⟨Nat.le_of_ble_eq_true rfl, Nat.le_of_ble_eq_true rfl⟩, ⟨rfl, rfl⟩, ⟨Nat.le_of_ble_eq_true rfl, Nat.le_of_ble_eq_true rfl⟩, Nat.le_of_ble_eq_true rfl, rfl, rfl⟩ rfl rfl rfl
        refine j_if_ne_B (tgt := 61) dX3_readForm_56 (by decide) (fun h56 => ?_) (fun h56 => ?_)
        · skip
          refine j_w (w2 := TW D X sg (upd kd ic kind) (upd nu' (ic * 10 + i) (nval sg n (sk sg n k'))) (nend sg n (sk sg n k')) n ic) (by rw [rnW_t h56]) ?_
          refine j_iinc (v := nI (i + 1)) (lv2 := [(0, .ref (X 0)), (1, .int kind), (2, .ref ta), (3, .ref tb), (4, .int (nI (i + 1)))]) dX3_readForm_61 4 rfl (nI_1 _) (by decide) [1, 2, 3, 4, 0] rfl ?_
          refine j_goto (tgt := 23) dX3_readForm_64 (by decide) ?_
          exact ih (i + 1) _ _ (by omega) (nend_le hskn) (by rw [he, show c - i = (c - (i + 1)) + 1 by omega]; exact if_pos h56) (by rw [hf, show c - i = (c - (i + 1)) + 1 by omega]; exact if_pos h56) (by omega)
        · skip
          refine j_iconst (v := nI 0) dX3_readForm_59 (by decide) ?_
          exact j_zret dX3_readForm_60 (rfl) ⟨rfl, rfl⟩ ⟨rv_f (by rw [he, show c - i = (c - (i + 1)) + 1 by omega]; unfold frl; rw [if_neg (by rw [h56]; decide)]), by rw [rnW_f h56, he, hf, show c - i = (c - (i + 1)) + 1 by omega]; unfold frl fnu; rw [if_neg (by rw [h56]; decide), if_neg (by rw [h56]; decide)]⟩
  exact L23 (c + 1) 0 (k + 1) nu (by omega) (by omega) rfl rfl (by omega)

set_option maxHeartbeats 4000000 in
set_option maxRecDepth 100000 in
theorem c_X3_readItem (X : Nat → Nat) (sg kd nu : SS) (k n ic : Nat) (a : Nat → Nat) (hz : zT D a) (hn : n ≤ 120) (hk : k < n) (hic : ic < 24) : Ct D yX3_readItem cX3_readItem 2 (some .boolean) ({ frames := 4, cells := 0, slots := 0, locals := 93 } : Room) [.ref (X 0)] (TW D X sg kd nu k n ic) (fun v_ u_ => v_ = some (.int (bI (itR sg n k).1)) ∧ u_ = TW D X sg (itKd sg k ic kd) (itNu sg n k ic nu) ((itR sg n k).2) n ic) := by
  refine ct_of (by decide) (Nat.le_of_ble_eq_true rfl) (lv0 := [(0, .ref (X 0))]) rfl (fun Γ => ?_)
  refine j_aload_n dX3_readItem_0 0 rfl ?_
  refine g_X3_9 rfl dX3_readItem_1 0 rfl rfl ?_
  refine j_aload_n dX3_readItem_4 0 rfl ?_
  refine g_X3_19 rfl dX3_readItem_5 0 rfl rfl ?_
  refine j_iald (v := sg k) dX3_readItem_8 1 k rfl (rfl) (by omega) (Nat.le_of_ble_eq_true rfl) (rfl) ?_
  refine j_istore_n (lv2 := [(0, .ref (X 0)), (1, .int (sg k))]) dX3_readItem_9 (by decide) [1, 0] rfl ?_
  refine j_iload_n dX3_readItem_10 1 rfl ?_
  by_cases hs108 : sg k = nI 108
  · skip
    refine j_lookup (off := 33) (tgt := 44) dX3_readItem_11 (by decide) (by rw [hs108]; rfl) (by decide) ?_
    refine j_aload_n dX3_readItem_44 0 rfl ?_
    refine j_iload_n dX3_readItem_45 1 rfl ?_
    refine j_gs (q := ("TransferRings$Text", "LETTER_LEAST", "[I", a 0, 10, tLL)) m_fl_X3_36 hz.1 dX3_readItem_46 ?_
    refine j_gs (q := ("TransferRings$Text", "LETTER_MOST", "[I", a 1, 10, tLM)) m_fl_X3_39 hz.2.1 dX3_readItem_49 ?_
    refine j_V (w2 := TW D X sg (upd kd ic (sg k)) (fnu sg n tLL tLM (ic * 10) 10 0 (k + 1) nu) ((frl sg n tLL tLM 10 0 (k + 1)).2) n ic) (st2 := [.int (bI ((frl sg n tLL tLM 10 0 (k + 1)).1))]) (c_X3_readForm X sg kd nu k n ic (sg k) (a 0) (a 1) 10 "LETTER_LEAST" "LETTER_MOST" tLL tLM hz.1 hz.2.1 (by decide) hn hk hic) rfl cw_X3_42 dX3_readItem_52 [] rfl [0, 1, 2, 3] rfl rfl rfl 3 ?_ ⟨rfl, ⟨Nat.le_of_ble_eq_true rfl, Nat.le_of_ble_eq_true rfl⟩, ⟨rfl, rfl⟩, ⟨Nat.le_of_ble_eq_true rfl, Nat.le_of_ble_eq_true rfl⟩, Nat.le_of_ble_eq_true rfl, rfl, rfl⟩ rfl rfl rfl
    exact j_zret dX3_readItem_55 (nar_b _) ⟨rfl, rfl⟩ ⟨by rw [show itR sg n k = frl sg n tLL tLM 10 0 (k + 1) from itR_e108 hs108], by rw [show itR sg n k = frl sg n tLL tLM 10 0 (k + 1) from itR_e108 hs108, show itKd sg k ic kd = _ from itKd_e108 hs108, show itNu sg n k ic nu = _ from itNu_e108 hs108]⟩
  · skip
    by_cases hs102 : sg k = nI 102
    · skip
      refine j_lookup (off := 45) (tgt := 56) dX3_readItem_11 (by decide) (by rw [hs102]; rfl) (by decide) ?_
      refine j_aload_n dX3_readItem_56 0 rfl ?_
      refine j_iload_n dX3_readItem_57 1 rfl ?_
      refine j_gs (q := ("TransferRings$Text", "FILL_LEAST", "[I", a 2, 2, tFL)) m_fl_X3_46 hz.2.2.1 dX3_readItem_58 ?_
      refine j_gs (q := ("TransferRings$Text", "FILL_MOST", "[I", a 3, 2, tFM)) m_fl_X3_49 hz.2.2.2.1 dX3_readItem_61 ?_
      refine j_V (w2 := TW D X sg (upd kd ic (sg k)) (fnu sg n tFL tFM (ic * 10) 2 0 (k + 1) nu) ((frl sg n tFL tFM 2 0 (k + 1)).2) n ic) (st2 := [.int (bI ((frl sg n tFL tFM 2 0 (k + 1)).1))]) (c_X3_readForm X sg kd nu k n ic (sg k) (a 2) (a 3) 2 "FILL_LEAST" "FILL_MOST" tFL tFM hz.2.2.1 hz.2.2.2.1 (by decide) hn hk hic) rfl cw_X3_42 dX3_readItem_64 [] rfl [0, 1, 2, 3] rfl rfl rfl 3 ?_ ⟨rfl, ⟨Nat.le_of_ble_eq_true rfl, Nat.le_of_ble_eq_true rfl⟩, ⟨rfl, rfl⟩, ⟨Nat.le_of_ble_eq_true rfl, Nat.le_of_ble_eq_true rfl⟩, Nat.le_of_ble_eq_true rfl, rfl, rfl⟩ rfl rfl rfl
      exact j_zret dX3_readItem_67 (nar_b _) ⟨rfl, rfl⟩ ⟨by rw [show itR sg n k = frl sg n tFL tFM 2 0 (k + 1) from itR_e102 hs102], by rw [show itR sg n k = frl sg n tFL tFM 2 0 (k + 1) from itR_e102 hs102, show itKd sg k ic kd = _ from itKd_e102 hs102, show itNu sg n k ic nu = _ from itNu_e102 hs102]⟩
    · skip
      by_cases hs99 : sg k = nI 99
      · skip
        refine j_lookup (off := 57) (tgt := 68) dX3_readItem_11 (by decide) (by rw [hs99]; rfl) (by decide) ?_
        refine j_aload_n dX3_readItem_68 0 rfl ?_
        refine j_iload_n dX3_readItem_69 1 rfl ?_
        refine j_gs (q := ("TransferRings$Text", "TUNE_LEAST", "[I", a 4, 3, tTL)) m_fl_X3_52 hz.2.2.2.2.1 dX3_readItem_70 ?_
        refine j_gs (q := ("TransferRings$Text", "TUNE_MOST", "[I", a 5, 3, tTM)) m_fl_X3_55 hz.2.2.2.2.2 dX3_readItem_73 ?_
        refine j_V (w2 := TW D X sg (upd kd ic (sg k)) (fnu sg n tTL tTM (ic * 10) 3 0 (k + 1) nu) ((frl sg n tTL tTM 3 0 (k + 1)).2) n ic) (st2 := [.int (bI ((frl sg n tTL tTM 3 0 (k + 1)).1))]) (c_X3_readForm X sg kd nu k n ic (sg k) (a 4) (a 5) 3 "TUNE_LEAST" "TUNE_MOST" tTL tTM hz.2.2.2.2.1 hz.2.2.2.2.2 (by decide) hn hk hic) rfl cw_X3_42 dX3_readItem_76 [] rfl [0, 1, 2, 3] rfl rfl rfl 3 ?_ ⟨rfl, ⟨Nat.le_of_ble_eq_true rfl, Nat.le_of_ble_eq_true rfl⟩, ⟨rfl, rfl⟩, ⟨Nat.le_of_ble_eq_true rfl, Nat.le_of_ble_eq_true rfl⟩, Nat.le_of_ble_eq_true rfl, rfl, rfl⟩ rfl rfl rfl
        exact j_zret dX3_readItem_79 (nar_b _) ⟨rfl, rfl⟩ ⟨by rw [show itR sg n k = frl sg n tTL tTM 3 0 (k + 1) from itR_e99 hs99], by rw [show itR sg n k = frl sg n tTL tTM 3 0 (k + 1) from itR_e99 hs99, show itKd sg k ic kd = _ from itKd_e99 hs99, show itNu sg n k ic nu = _ from itNu_e99 hs99]⟩
      · skip
        refine j_lookup (off := 69) (tgt := 80) dX3_readItem_11 (by decide) (by rw [lv_osw hs99 (by decide)]; rw [lv_osw hs102 (by decide)]; rw [lv_osw hs108 (by decide)]; rfl) (by decide) ?_
        have hc0 : hcn (sg k) = 0 := hcn_0 hs108 hs102 hs99
        refine j_iconst (v := nI 0) dX3_readItem_80 (by decide) ?_
        exact j_zret dX3_readItem_81 (rfl) ⟨rfl, rfl⟩ ⟨rv_f (by rw [itR_0 hc0]), by rw [itR_0 hc0, show itKd sg k ic kd = kd from if_pos hc0, show itNu sg n k ic nu = nu from if_pos hc0]⟩

set_option maxHeartbeats 4000000 in
set_option maxRecDepth 100000 in
theorem c_X3_read (X : Nat → Nat) (sg kd nu : SS) (k n ic : Nat) (a : Nat → Nat) (hz : zT D a) (hn : n ≤ 120) : Ct D yX3_read cX3_read 1 (some .int) ({ frames := 5, cells := 0, slots := 0, locals := 114 } : Room) [.ref (X 0)] (TW D X sg kd nu k n ic) (fun v_ u_ => v_ = some (.int (rdI sg n)) ∧ ∃ (kd' nu' : SS) (k' : Nat), u_ = TW D X sg kd' nu' k' n (prA sg n).2 ∧ ((prA sg n).1 = none → GoodI sg n kd' nu' (prA sg n).2)) := by
  refine ct_of (by decide) (Nat.le_of_ble_eq_true rfl) (lv0 := [(0, .ref (X 0))]) rfl (fun Γ => ?_)
  refine j_aload_n dX3_read_0 0 rfl ?_
  refine j_iconst (v := nI 0) dX3_read_1 (by decide) ?_
  refine p_X3_19 (w2 := TW D X sg kd nu 0 n ic) rfl dX3_read_2 0 rfl (Nat.le_of_ble_eq_true rfl) (rfl) ?_
  refine j_aload_n dX3_read_5 0 rfl ?_
  refine j_iconst (v := nI 0) dX3_read_6 (by decide) ?_
  refine p_X3_26 (w2 := TW D X sg kd nu 0 n 0) rfl dX3_read_7 0 rfl (Nat.le_of_ble_eq_true rfl) (rfl) ?_
  refine j_aload_n dX3_read_10 0 rfl ?_
  refine j_V (w2 := TW D X sg kd nu (sk sg n 0) n 0) (st2 := []) (c_X3_skipBlanks X sg kd nu 0 n 0 (by omega) (by omega)) rfl cw_X3_29 dX3_read_11 [] rfl [0, 1, 2, 3] rfl rfl rfl 3 ?_ ⟨rfl, ⟨Nat.le_of_ble_eq_true rfl, Nat.le_of_ble_eq_true rfl⟩, ⟨rfl, rfl⟩, ⟨Nat.le_of_ble_eq_true rfl, Nat.le_of_ble_eq_true rfl⟩, Nat.le_of_ble_eq_true rfl, rfl, rfl⟩ rfl rfl rfl
  have L14 : ∀ (fuel : Nat) (i k' : Nat) (kd' nu' : SS), k' ≤ n → 5 * i ≤ k' → i ≤ 24 → k' = ps sg n i → prA sg n = prl sg n (25 - i) i k' → GoodI sg n kd' nu' i → n - k' < fuel → J D Γ yX3_read cX3_read 1 (some .int) ({ frames := 5, cells := 0, slots := 0, locals := 114 } : Room) (Qf D Γ ({ frames := 5, cells := 0, slots := 0, locals := 114 } : Room) (fun v_ u_ => v_ = some (.int (rdI sg n)) ∧ ∃ (kd' nu' : SS) (k' : Nat), u_ = TW D X sg kd' nu' k' n (prA sg n).2 ∧ ((prA sg n).1 = none → GoodI sg n kd' nu' (prA sg n).2))) 0 0 (TW D X sg kd' nu' k' n i) 14 [(0, .ref (X 0))] [] := by
    intro fuel
    induction fuel with
    | zero => intro i k' kd' nu' hk' h5 hi1 hps he hg hm; exact absurd hm (Nat.not_lt_zero _)
    | succ fuel ih =>
      intro i k' kd' nu' hk' h5 hi1 hps he hg hm
      have he2 := he
      rw [show 25 - i = (24 - i) + 1 by omega] at he2
      refine j_aload_n dX3_read_14 0 rfl ?_
      refine g_X3_19 rfl dX3_read_15 0 rfl rfl ?_
      refine j_aload_n dX3_read_18 0 rfl ?_
      refine g_X3_23 rfl dX3_read_19 0 rfl rfl ?_
      refine j_icmp_ge_N (tgt := 63) dX3_read_22 (by decide) ⟨by omega, by omega⟩ (fun h22 => ?_) (fun h22 => ?_)
      · skip
        refine j_aload_n dX3_read_63 0 rfl ?_
        refine g_X3_19 rfl dX3_read_64 0 rfl rfl ?_
        refine j_aload_n dX3_read_67 0 rfl ?_
        refine g_X3_23 rfl dX3_read_68 0 rfl rfl ?_
        refine j_icmp_ge_N (tgt := 81) dX3_read_71 (by decide) ⟨by omega, by omega⟩ (fun h71 => ?_) (fun h71 => absurd h22 h71)
        refine j_iconst (v := (-1)) dX3_read_81 (by decide) ?_
        exact j_iret dX3_read_82 ⟨rfl, rfl⟩ ⟨by unfold rdI; rw [he2, prl_n (by omega)], kd', nu', k', by rw [he2, prl_n (by omega)], fun _ => by rw [he2, prl_n (by omega)]; exact hg⟩
      · skip
        refine j_aload_n dX3_read_25 0 rfl ?_
        refine g_X3_26 rfl dX3_read_26 0 rfl rfl ?_
        refine j_bipush (v := nI 24) dX3_read_29 (by decide) ?_
        refine j_icmp_ge_N (tgt := 63) dX3_read_31 (by decide) ⟨by omega, by omega⟩ (fun h31 => absurd h31 (by omega)) (fun h31 => ?_)
        refine j_aload_n dX3_read_34 0 rfl ?_
        refine j_V (w2 := TW D X sg (itKd sg k' i kd') (itNu sg n k' i nu') ((itR sg n k').2) n i) (st2 := [.int (bI ((itR sg n k').1))]) (c_X3_readItem X sg kd' nu' k' n i a hz (by omega) (by omega) (by omega)) rfl cw_X3_32 dX3_read_35 [] rfl [0, 1, 2, 3] rfl rfl rfl 3 ?_ ⟨rfl, ⟨Nat.le_of_ble_eq_true rfl, Nat.le_of_ble_eq_true rfl⟩, ⟨rfl, rfl⟩, ⟨Nat.le_of_ble_eq_true rfl, Nat.le_of_ble_eq_true rfl⟩, Nat.le_of_ble_eq_true rfl, rfl, rfl⟩ rfl rfl rfl
        refine j_if_ne_B (tgt := 46) dX3_read_38 (by decide) (fun h38 => ?_) (fun h38 => ?_)
        · skip
          have hit := it_n (sg := sg) (k := k') (n := n) (by omega)
          refine j_aload_n dX3_read_46 0 rfl ?_
          refine j_dup dX3_read_47 rfl ?_
          refine g_X3_26 rfl dX3_read_48 0 rfl rfl ?_
          refine j_iconst (v := nI 1) dX3_read_51 (by decide) ?_
          refine j_iadd (v := nI (i + 1)) dX3_read_52 (nI_add _ _) ?_
          refine p_X3_26 (w2 := TW D X sg (itKd sg k' i kd') (itNu sg n k' i nu') ((itR sg n k').2) n (i + 1)) rfl dX3_read_53 0 rfl (Nat.le_of_ble_eq_true rfl) (rfl) ?_
          refine j_aload_n dX3_read_56 0 rfl ?_
          refine j_V (w2 := TW D X sg (itKd sg k' i kd') (itNu sg n k' i nu') (sk sg n ((itR sg n k').2)) n (i + 1)) (st2 := []) (c_X3_skipBlanks X sg (itKd sg k' i kd') (itNu sg n k' i nu') ((itR sg n k').2) n (i + 1) (by omega) (by omega)) rfl cw_X3_29 dX3_read_57 [] rfl [0, 1, 2, 3] rfl rfl rfl 3 ?_ ⟨rfl, ⟨Nat.le_of_ble_eq_true rfl, Nat.le_of_ble_eq_true rfl⟩, ⟨rfl, rfl⟩, ⟨Nat.le_of_ble_eq_true rfl, Nat.le_of_ble_eq_true rfl⟩, Nat.le_of_ble_eq_true rfl, rfl, rfl⟩ rfl rfl rfl
          refine j_goto (tgt := 14) dX3_read_60 (by decide) ?_
          exact ih (i + 1) _ _ _ (sk_n (it_n (by omega))) (by have := it_len h38; have := sk_le (sg := sg) (n := n) (itR sg n k').2; omega) (by have := it_len h38; have := it_n (sg := sg) (k := k') (n := n) (by omega); omega) (by rw [hps]; rfl) (by rw [he2, prl_y (by omega) h38, show 25 - (i + 1) = 24 - i by omega]) (GoodI_s hg hps h38 (by omega)) (by have := it_len h38; have := sk_le (sg := sg) (n := n) (itR sg n k').2; omega)
        · skip
          refine j_aload_n dX3_read_41 0 rfl ?_
          refine g_X3_19 rfl dX3_read_42 0 rfl rfl ?_
          exact j_iret dX3_read_45 ⟨rfl, rfl⟩ ⟨by unfold rdI; rw [he2, prl_e (by omega) h38], _, _, _, by rw [he2, prl_e (by omega) h38], fun z => by rw [he2, prl_e (by omega) h38] at z; cases z⟩
  exact L14 (n + 1) 0 (sk sg n 0) kd nu (sk_n (Nat.zero_le n)) (by omega) (by omega) rfl rfl (fun t ht => absurd ht (Nat.not_lt_zero _)) (by omega)

end TX2
end
section
/-! an item is done -/
def pp (s : SS) (c : Nat) : Nat := c * 6 + po s c
def poN (s v : SS) (p : Nat) : Nat → SS
  | 0 => upd s (92 + 14 * p) 1
  | j + 1 => upd (poN s v p j) (93 + 14 * p + j) (v (1 + j))
def po2 (s v : SS) (p : Nat) : SS := upd (upd (poN s v p 9) (93 + 14 * p + 9) 1) (93 + 14 * p + 10) 0
def po3 (s v : SS) (p : Nat) : SS := upd (upd (po2 s v p) (93 + 14 * p + 11) (gL (po2 s v p) p 2 * gL (po2 s v p) p 5)) (93 + 14 * p + 12) 0
def poF (s : SS) (c : Nat) (v : SS) : SS := upd (po3 s v (pp s c)) (64 + 7 * c + 3) (nI ((po s c + 1) % 6))
theorem vL_has {s : SS} {p : Nat} {x : Int32} : vL (upd s (92 + 14 * p) x) = vL s := by
  funext j; unfold vL upd
  split
  · rw [if_neg (by omega)]
  · rfl
theorem EW_has {D : DX} {E : Nat → Nat} {s : SS} {p : Nat} {x : Int32} (hp : p < 24) : EW D E (upd s (92 + 14 * p) x) = EW D E s := by
  simp only [EW, vL_has, vM_up (s := s) (x := x) (by omega : 64 ≤ 92 + 14 * p), vC_up (s := s) (x := x) (Or.inr (by omega : 92 ≤ 92 + 14 * p)), vQ_up (s := s) (x := x) (Or.inl (by omega : 92 + 14 * p < 429)), up_ne (s := s) (x := x) (by omega : 428 ≠ 92 + 14 * p), up_ne (s := s) (x := x) (by omega : 453 ≠ 92 + 14 * p), up_ne (s := s) (x := x) (by omega : 454 ≠ 92 + 14 * p)]
theorem poN_ne {s v : SS} {p k : Nat} : ∀ (j : Nat), (k < 92 + 14 * p ∨ 93 + 14 * p + j ≤ k) → poN s v p j k = s k
  | 0, h => by show upd s _ _ k = _; rw [up_ne (by omega)]
  | j + 1, h => by show upd (poN s v p j) _ _ k = _; rw [up_ne (by omega), poN_ne j (by omega)]
theorem poN_at {s v : SS} {p i : Nat} : ∀ (j : Nat), i < j → poN s v p j (93 + 14 * p + i) = v (1 + i)
  | 0, h => absurd h (Nat.not_lt_zero _)
  | j + 1, h => by
    show upd (poN s v p j) _ _ _ = _
    by_cases e : i = j
    · subst e; exact up_eq
    · rw [up_ne (by omega), poN_at j (by omega)]
theorem poN_has {s v : SS} {p : Nat} : ∀ (j : Nat), poN s v p j (92 + 14 * p) = 1
  | 0 => up_eq
  | j + 1 => by show upd (poN s v p j) _ _ _ = _; rw [up_ne (by omega), poN_has j]
theorem po3_ne {s v : SS} {p k : Nat} (h : k < 92 + 14 * p ∨ 93 + 14 * p + 13 ≤ k) : po3 s v p k = s k := by
  unfold po3 po2
  rw [up_ne (by omega), up_ne (by omega), up_ne (by omega), up_ne (by omega), poN_ne 9 (by omega)]
theorem LeOk_po {s v : SS} {p : Nat} (hN : nat? (v 3) 1 17) (hR : nat? (v 6) 1 5) : LeOk (po3 s v p) p := by
  have e2 : ∀ t : SS, gL (upd (upd t (93 + 14 * p + 9) 1) (93 + 14 * p + 10) 0) p 2 = gL t p 2 := fun t => by unfold gL; rw [up_ne (by omega), up_ne (by omega)]
  have e5 : ∀ t : SS, gL (upd (upd t (93 + 14 * p + 9) 1) (93 + 14 * p + 10) 0) p 5 = gL t p 5 := fun t => by unfold gL; rw [up_ne (by omega), up_ne (by omega)]
  have f2 : gL (po2 s v p) p 2 = v 3 := by unfold po2; rw [e2]; exact poN_at 9 (by decide)
  have f5 : gL (po2 s v p) p 5 = v 6 := by unfold po2; rw [e5]; exact poN_at 9 (by decide)
  have g2 : gL (po3 s v p) p 2 = v 3 := by unfold po3; unfold gL; rw [up_ne (by omega), up_ne (by omega)]; exact f2
  have g5 : gL (po3 s v p) p 5 = v 6 := by unfold po3; unfold gL; rw [up_ne (by omega), up_ne (by omega)]; exact f5
  have gh : po3 s v p (92 + 14 * p) = 1 := by unfold po3 po2; rw [up_ne (by omega), up_ne (by omega), up_ne (by omega), up_ne (by omega)]; exact poN_has 9
  obtain ⟨a, a1, a2, a3⟩ := hN
  obtain ⟨b, b1, b2, b3⟩ := hR
  have hu : un (po3 s v p) p = a * b := by unfold un nn rr; rw [g2, g5, a3, b3, nI_clamp (by omega), nI_clamp (by omega)]
  refine Or.inr ⟨gh, by rw [g2]; exact ⟨a, a1, a2, a3⟩, by rw [g5]; exact ⟨b, b1, b2, b3⟩, ?_⟩
  refine ⟨a * b, Nat.zero_le _, by rw [hu]; omega, ?_⟩
  show po3 s v p (93 + 14 * p + 11) = _
  unfold po3
  rw [up_ne (by omega), up_eq, f2, f5, a3, b3, pk_mul]
theorem Inv_po3 {s v : SS} {p : Nat} (h : Inv s) (hp : p < 24) (hN : nat? (v 3) 1 17) (hR : nat? (v 6) 1 5) : Inv (po3 s v p) := by
  refine ⟨fun c hc => ?_, fun q hq => ?_, ?_, ?_⟩
  · have := h.1 c hc
    unfold ChOk gC at *
    rw [po3_ne (by omega), po3_ne (by omega), po3_ne (by omega), po3_ne (by omega), po3_ne (by omega)]
    exact this
  · by_cases e : q = p
    · subst e; exact LeOk_po hN hR
    · have := h.2.1 q hq
      have hu : un (po3 s v p) q = un s q := by unfold un nn rr gL; rw [po3_ne (by omega), po3_ne (by omega)]
      unfold LeOk gL at *
      rw [hu, po3_ne (by omega), po3_ne (by omega), po3_ne (by omega), po3_ne (by omega), po3_ne (by omega)]
      exact this
  · rw [po3_ne (by omega), po3_ne (by omega)]; exact h.2.2.1
  · rw [po3_ne (by omega)]; exact h.2.2.2
theorem Inv.pp_ {s : SS} (h : Inv s) {c : Nat} (hc : c < 4) : pp s c < 24 := by
  have := (h.po_ hc).2
  unfold pp; omega
theorem Inv_po {s v : SS} {c : Nat} (h : Inv s) (hc : c < 4) (hN : nat? (v 3) 1 17) (hR : nat? (v 6) 1 5) : Inv (poF s c v) := by
  have h3 := Inv_po3 (p := pp s c) h (h.pp_ hc) hN hR
  refine Inv_C h3 hc (by decide) ?_
  have q := h3.1 c hc
  unfold ChOk gC at *
  rw [up_ne (by omega), up_ne (by omega), up_ne (by omega), up_eq, up_ne (by omega)]
  exact ⟨q.1, q.2.1, q.2.2.1, ⟨(po s c + 1) % 6, Nat.zero_le _, Nat.mod_lt _ (by decide), rfl⟩, q.2.2.2.2⟩
def vc (v : SS) : Nat := (v 0).toNatClampNeg
def okI (s : SS) (x : Int32) (v : SS) : Bool := if x = 108 then !eng s (pp s (vc v)) else true
def doI (s : SS) (x : Int32) (v : SS) : SS := if x = 108 then poF s (vc v) v else if x = 102 then upd s (vc v) (v 1) else upd (upd s (64 + 7 * vc v + 1) (v 1)) (64 + 7 * vc v + 2) (v 2)
/-- the numbers of an item are as they may be -/
def ItOk (x : Int32) (v : SS) : Prop := ¬ hcn x = 0 ∧ ∀ j, j < hcn x → inR (v j) (lo3 x j) (hi3 x j) = true
theorem ItOk.l {x : Int32} {v : SS} (h : ItOk x v) (hx : x = 108) : (v 0 = nI (vc v) ∧ vc v < 4) ∧ nat? (v 3) 1 17 ∧ nat? (v 6) 1 5 := by
  have hc : hcn x = 10 := by rw [hx]; rfl
  have hl : lo3 x = tLL := by rw [hx]; rfl
  have hh : hi3 x = tLM := by rw [hx]; rfl
  have h' := h.2
  rw [hc, hl, hh] at h'
  have h0 := (inR_nat (a := 0) (b := 3) (by decide) (by decide) (h' 0 (by decide))).to (by decide)
  exact ⟨⟨h0.1, h0.2.2⟩, inR_nat (a := 1) (b := 16) (by decide) (by decide) (h' 3 (by decide)), inR_nat (a := 1) (b := 4) (by decide) (by decide) (h' 6 (by decide))⟩
theorem ItOk.f {x : Int32} {v : SS} (h : ItOk x v) (hx : x = 102) : v 0 = nI (vc v) ∧ vc v < 64 := by
  have hc : hcn x = 2 := by rw [hx]; rfl
  have hl : lo3 x = tFL := by rw [hx]; rfl
  have hh : hi3 x = tFM := by rw [hx]; rfl
  have h' := h.2
  rw [hc, hl, hh] at h'
  have h0 := (inR_nat (a := 0) (b := 63) (by decide) (by decide) (h' 0 (by decide))).to (by decide)
  exact ⟨h0.1, h0.2.2⟩
theorem ItOk.c {x : Int32} {v : SS} (h : ItOk x v) (hx : x = 99) : (v 0 = nI (vc v) ∧ vc v < 4) ∧ nat? (v 1) 0 4 ∧ nat? (v 2) 1 9 := by
  have hc : hcn x = 3 := by rw [hx]; rfl
  have hl : lo3 x = tTL := by rw [hx]; rfl
  have hh : hi3 x = tTM := by rw [hx]; rfl
  have h' := h.2
  rw [hc, hl, hh] at h'
  have h0 := (inR_nat (a := 0) (b := 3) (by decide) (by decide) (h' 0 (by decide))).to (by decide)
  exact ⟨⟨h0.1, h0.2.2⟩, inR_nat (a := 0) (b := 3) (by decide) (by decide) (h' 1 (by decide)), inR_nat (a := 1) (b := 8) (by decide) (by decide) (h' 2 (by decide))⟩
theorem ItOk.d {x : Int32} {v : SS} (h : ItOk x v) (h1 : ¬ x = 108) (h2 : ¬ x = 102) : x = 99 := by
  rcases hcn_cases x with q | q | q | q
  · exact absurd q.1 h1
  · exact absurd q.1 h2
  · exact q.1
  · exact absurd q.1 h.1
theorem Inv_rb {s : SS} {c : Nat} {a b : Int32} (h : Inv s) (hc : c < 4) (ha : nat? a 0 4) (hb : nat? b 1 9) : Inv (upd (upd s (64 + 7 * c + 1) a) (64 + 7 * c + 2) b) := by
  have h1 : Inv (upd s (64 + 7 * c + 1) a) := by
    refine Inv_C h hc (by decide) ?_
    have q := h.1 c hc
    unfold ChOk gC at *
    rw [up_ne (by omega), up_eq, up_ne (by omega), up_ne (by omega), up_ne (by omega)]
    exact ⟨q.1, ha, q.2.2⟩
  generalize upd s (64 + 7 * c + 1) a = t at h1 ⊢
  refine Inv_C h1 hc (by decide) ?_
  have q := h1.1 c hc
  unfold ChOk gC at *
  rw [up_ne (by omega), up_ne (by omega), up_eq, up_ne (by omega), up_ne (by omega)]
  exact ⟨q.1, q.2.1, hb, q.2.2.2⟩
theorem Inv_do {s v : SS} {x : Int32} (h : Inv s) (hv : ItOk x v) : Inv (doI s x v) := by
  unfold doI
  by_cases h1 : x = 108
  · rw [if_pos h1]; have q := hv.l h1; exact Inv_po h q.1.2 q.2.1 q.2.2
  · rw [if_neg h1]
    by_cases h2 : x = 102
    · rw [if_pos h2]; exact Inv_free h (fr_mem (hv.f h2).2)
    · rw [if_neg h2]; have q := hv.c (hv.d h1 h2); exact Inv_rb h q.1.2 q.2.1 q.2.2
theorem frl_in {sg : SS} {n : Nat} {lo hi : SS} : ∀ (r i k j : Nat), (frl sg n lo hi r i k).1 = true → j < r → inR (nval sg n (sk sg n (npp sg n k j))) (lo (i + j)) (hi (i + j)) = true
  | 0, _, _, _, _, hj => absurd hj (Nat.not_lt_zero _)
  | r + 1, i, k, j, h, hj => by
    unfold frl at h
    by_cases q : rdk sg n (sk sg n k) (lo i) (hi i) = true
    · rw [if_pos q] at h
      cases j with
      | zero => exact (rdk_iff.mp q).2
      | succ j =>
        have := frl_in r (i + 1) _ j h (by omega)
        rw [npp_s, show i + (j + 1) = i + 1 + j by omega]
        exact this
    · rw [if_neg q] at h; cases h
theorem it_ok {sg : SS} {n k : Nat} (h : (itR sg n k).1 = true) : ItOk (sg k) (iv sg n k) := by
  have h0 := it_hcn h
  refine ⟨h0, fun j hj => ?_⟩
  rw [itR_k h0] at h
  have := frl_in _ 0 _ j h hj
  rw [Nat.zero_add] at this
  exact this
theorem doI_cong {s v u : SS} {x : Int32} (h : ∀ j, j < hcn x → v j = u j) (h0 : ¬ hcn x = 0) : doI s x v = doI s x u ∧ okI s x v = okI s x u := by
  have hvc : vc v = vc u := by unfold vc; rw [h 0 (by omega)]
  unfold doI okI
  rw [hvc]
  rcases hcn_cases x with q | q | q | q
  · rw [q.2.1] at h
    refine ⟨?_, rfl⟩
    rw [if_pos q.1, if_pos q.1]
    have hN : ∀ p j, j ≤ 9 → poN s v p j = poN s u p j := by
      intro p j
      induction j with
      | zero => intro _; rfl
      | succ j ih => intro hj; show upd (poN s v p j) _ _ = upd (poN s u p j) _ _; rw [ih (by omega), h (1 + j) (by omega)]
    unfold poF po3 po2
    rw [hN _ 9 (by decide)]
  · rw [q.2.1] at h
    rw [h 1 (by decide)]
    refine ⟨?_, rfl⟩
    have n1 : ¬ x = 108 := by rw [q.1]; decide
    simp only [if_neg n1, if_pos q.1]
  · rw [q.2.1] at h
    rw [h 1 (by decide), h 2 (by decide)]
    refine ⟨?_, rfl⟩
    have n1 : ¬ x = 108 := by rw [q.1]; decide
    have n2 : ¬ x = 102 := by rw [q.1]; decide
    simp only [if_neg n1, if_neg n2]
  · exact absurd q.1 h0
end
section
theorem rv_tB {b : Bool} (h : b = true) : some (Value.int (bI true)) = some (Value.int (bI b)) := by rw [h]
theorem rv_fB {b : Bool} (h : b = false) : some (Value.int (bI false)) = some (Value.int (bI b)) := by rw [h]
section EN4
variable {D : DX}
set_option maxHeartbeats 4000000 in
set_option maxRecDepth 100000 in
theorem c_X0_post_full (E X : Nat → Nat) (s sg kd nu : SS) (k n ic : Nat) (hI : Inv s) (c i : Nat) (hc : c < 4) (hi : i < 24) (he : eng s (pp s c) = true) : Ct D yX0_post cX0_post 7 (some .boolean) ({ frames := 2, cells := 0, slots := 0, locals := 43 } : Room) [.ref (E 0), .int (nI c), .ref (X 0), .int (nI i)] ((EW D E s) ++ (TW D X sg kd nu k n ic)) (fun v_ u_ => v_ = some (.int (bI false)) ∧ u_ = (EW D E s) ++ (TW D X sg kd nu k n ic)) := by
  have hpp := hI.pp_ hc
  have hpo := (hI.po_ hc).2
  refine ct_of (by decide) (Nat.le_of_ble_eq_true rfl) (lv0 := [(0, .ref (E 0)), (1, .int (nI c)), (2, .ref (X 0)), (3, .int (nI i))]) rfl (fun Γ => ?_)
  refine j_aload_n dX0_post_0 0 rfl ?_
  refine j_iload_n dX0_post_1 1 rfl ?_
  refine j_iconst (v := nI 3) dX0_post_2 (by decide) ?_
  refine j_V (w2 := (EW D E s) ++ (TW D X sg kd nu k n ic)) (st2 := [.int (gC s c 3)]) (c_X0_ofChannel E s c 3 (by omega) (by omega)) rfl cw_X0_73 dX0_post_3 [] rfl [0, 1, 2, 3, 4] rfl rfl rfl 0 ?_ ⟨rfl, ⟨Nat.le_of_ble_eq_true rfl, Nat.le_of_ble_eq_true rfl⟩, ⟨rfl, rfl⟩, ⟨Nat.le_of_ble_eq_true rfl, Nat.le_of_ble_eq_true rfl⟩, Nat.le_of_ble_eq_true rfl, rfl, rfl⟩ rfl rfl rfl
  refine j_topi (v := nI (po s c)) ((hI.po_ hc).1) ?_
  refine j_istore (lv2 := [(0, .ref (E 0)), (1, .int (nI c)), (2, .ref (X 0)), (3, .int (nI i)), (4, .int (nI (po s c)))]) dX0_post_6 (by decide) [1, 2, 3, 4, 0] rfl ?_
  refine j_iload_n dX0_post_8 1 rfl ?_
  refine j_iload dX0_post_9 4 rfl ?_
  refine j_S (w2 := (EW D E s) ++ (TW D X sg kd nu k n ic)) (st2 := [.int (nI (c * 6 + (po s c)))]) (c_X0_placeOf c (po s c)) rfl cw_X0_64 dX0_post_11 [] rfl [] rfl rfl rfl ?_ ⟨rfl, ⟨Nat.le_of_ble_eq_true rfl, Nat.le_of_ble_eq_true rfl⟩, ⟨rfl, rfl⟩, ⟨Nat.le_of_ble_eq_true rfl, Nat.le_of_ble_eq_true rfl⟩, Nat.le_of_ble_eq_true rfl, rfl, rfl⟩
  refine j_topi (v := nI (pp s c)) (rfl) ?_
  refine j_istore (lv2 := [(0, .ref (E 0)), (1, .int (nI c)), (2, .ref (X 0)), (3, .int (nI i)), (4, .int (nI (po s c))), (5, .int (nI (pp s c)))]) dX0_post_14 (by decide) [1, 2, 3, 4, 5, 0] rfl ?_
  refine j_aload_n dX0_post_16 0 rfl ?_
  refine j_iload dX0_post_17 5 rfl ?_
  refine j_V (w2 := (EW D E s) ++ (TW D X sg kd nu k n ic)) (st2 := [.int (bI (eng s (pp s c)))]) (c_X0_isEngines E s (pp s c) (by omega)) rfl cw_X0_67 dX0_post_19 [] rfl [0, 1, 2, 3, 4] rfl rfl rfl 0 ?_ ⟨rfl, ⟨Nat.le_of_ble_eq_true rfl, Nat.le_of_ble_eq_true rfl⟩, ⟨rfl, rfl⟩, ⟨Nat.le_of_ble_eq_true rfl, Nat.le_of_ble_eq_true rfl⟩, Nat.le_of_ble_eq_true rfl, rfl, rfl⟩ rfl rfl rfl
  refine j_if_eq_B (tgt := 27) dX0_post_22 (by decide) (fun h22 => absurd (he.symm.trans h22) (by decide)) (fun h22 => ?_)
  refine j_iconst (v := nI 0) dX0_post_25 (by decide) ?_
  exact j_zret dX0_post_26 (rfl) ⟨rfl, rfl⟩ ⟨rfl, rfl⟩

set_option maxHeartbeats 4000000 in
set_option maxRecDepth 100000 in
theorem c_X0_post (E X : Nat → Nat) (s sg kd nu : SS) (k n ic : Nat) (hI : Inv s) (c i : Nat) (hc : c < 4) (hi : i < 24) (he : eng s (pp s c) = false) : Ct D yX0_post cX0_post 7 (some .boolean) ({ frames := 2, cells := 0, slots := 0, locals := 43 } : Room) [.ref (E 0), .int (nI c), .ref (X 0), .int (nI i)] ((EW D E s) ++ (TW D X sg kd nu k n ic)) (fun v_ u_ => v_ = some (.int (bI true)) ∧ u_ = (EW D E (poF s c (fun j => nu (i * 10 + j)))) ++ (TW D X sg kd nu k n ic)) := by
  have hpp := hI.pp_ hc
  have hpo := (hI.po_ hc).2
  refine ct_of (by decide) (Nat.le_of_ble_eq_true rfl) (lv0 := [(0, .ref (E 0)), (1, .int (nI c)), (2, .ref (X 0)), (3, .int (nI i))]) rfl (fun Γ => ?_)
  refine j_aload_n dX0_post_0 0 rfl ?_
  refine j_iload_n dX0_post_1 1 rfl ?_
  refine j_iconst (v := nI 3) dX0_post_2 (by decide) ?_
  refine j_V (w2 := (EW D E s) ++ (TW D X sg kd nu k n ic)) (st2 := [.int (gC s c 3)]) (c_X0_ofChannel E s c 3 (by omega) (by omega)) rfl cw_X0_73 dX0_post_3 [] rfl [0, 1, 2, 3, 4] rfl rfl rfl 0 ?_ ⟨rfl, ⟨Nat.le_of_ble_eq_true rfl, Nat.le_of_ble_eq_true rfl⟩, ⟨rfl, rfl⟩, ⟨Nat.le_of_ble_eq_true rfl, Nat.le_of_ble_eq_true rfl⟩, Nat.le_of_ble_eq_true rfl, rfl, rfl⟩ rfl rfl rfl
  refine j_topi (v := nI (po s c)) ((hI.po_ hc).1) ?_
  refine j_istore (lv2 := [(0, .ref (E 0)), (1, .int (nI c)), (2, .ref (X 0)), (3, .int (nI i)), (4, .int (nI (po s c)))]) dX0_post_6 (by decide) [1, 2, 3, 4, 0] rfl ?_
  refine j_iload_n dX0_post_8 1 rfl ?_
  refine j_iload dX0_post_9 4 rfl ?_
  refine j_S (w2 := (EW D E s) ++ (TW D X sg kd nu k n ic)) (st2 := [.int (nI (c * 6 + (po s c)))]) (c_X0_placeOf c (po s c)) rfl cw_X0_64 dX0_post_11 [] rfl [] rfl rfl rfl ?_ ⟨rfl, ⟨Nat.le_of_ble_eq_true rfl, Nat.le_of_ble_eq_true rfl⟩, ⟨rfl, rfl⟩, ⟨Nat.le_of_ble_eq_true rfl, Nat.le_of_ble_eq_true rfl⟩, Nat.le_of_ble_eq_true rfl, rfl, rfl⟩
  refine j_topi (v := nI (pp s c)) (rfl) ?_
  refine j_istore (lv2 := [(0, .ref (E 0)), (1, .int (nI c)), (2, .ref (X 0)), (3, .int (nI i)), (4, .int (nI (po s c))), (5, .int (nI (pp s c)))]) dX0_post_14 (by decide) [1, 2, 3, 4, 5, 0] rfl ?_
  refine j_aload_n dX0_post_16 0 rfl ?_
  refine j_iload dX0_post_17 5 rfl ?_
  refine j_V (w2 := (EW D E s) ++ (TW D X sg kd nu k n ic)) (st2 := [.int (bI (eng s (pp s c)))]) (c_X0_isEngines E s (pp s c) (by omega)) rfl cw_X0_67 dX0_post_19 [] rfl [0, 1, 2, 3, 4] rfl rfl rfl 0 ?_ ⟨rfl, ⟨Nat.le_of_ble_eq_true rfl, Nat.le_of_ble_eq_true rfl⟩, ⟨rfl, rfl⟩, ⟨Nat.le_of_ble_eq_true rfl, Nat.le_of_ble_eq_true rfl⟩, Nat.le_of_ble_eq_true rfl, rfl, rfl⟩ rfl rfl rfl
  refine j_if_eq_B (tgt := 27) dX0_post_22 (by decide) (fun h22 => ?_) (fun h22 => absurd (he.symm.trans h22) (by decide))
  refine j_w (w2 := (EW D E (poN s (fun j => nu (i * 10 + j)) (pp s c) 0)) ++ (TW D X sg kd nu k n ic)) (by rw [show EW D E (poN s (fun j => nu (i * 10 + j)) (pp s c) 0) = EW D E s from EW_has hpp]) ?_
  refine j_iconst (v := nI 0) dX0_post_27 (by decide) ?_
  refine j_istore (lv2 := [(0, .ref (E 0)), (1, .int (nI c)), (2, .ref (X 0)), (3, .int (nI i)), (4, .int (nI (po s c))), (5, .int (nI (pp s c))), (6, .int (nI 0))]) dX0_post_28 (by decide) [1, 2, 3, 4, 5, 6, 0] rfl ?_
  have L30 : ∀ (fuel : Nat) (j : Nat), j ≤ 9 → 9 - j < fuel → J D Γ yX0_post cX0_post 7 (some .boolean) ({ frames := 2, cells := 0, slots := 0, locals := 43 } : Room) (Qf D Γ ({ frames := 2, cells := 0, slots := 0, locals := 43 } : Room) (fun v_ u_ => v_ = some (.int (bI true)) ∧ u_ = (EW D E (poF s c (fun j => nu (i * 10 + j)))) ++ (TW D X sg kd nu k n ic))) 0 0 ((EW D E (poN s (fun j => nu (i * 10 + j)) (pp s c) j)) ++ (TW D X sg kd nu k n ic)) 30 [(0, .ref (E 0)), (1, .int (nI c)), (2, .ref (X 0)), (3, .int (nI i)), (4, .int (nI (po s c))), (5, .int (nI (pp s c))), (6, .int (nI j))] [] := by
    intro fuel
    induction fuel with
    | zero => intro j hj hm; exact absurd hm (Nat.not_lt_zero _)
    | succ fuel ih =>
      intro j hj hm
      refine j_iload dX0_post_30 6 rfl ?_
      refine j_bipush (v := nI 9) dX0_post_32 (by decide) ?_
      refine j_icmp_ge_N (tgt := 60) dX0_post_34 (by decide) ⟨by omega, by omega⟩ (fun h34 => ?_) (fun h34 => ?_)
      · skip
        obtain rfl : j = 9 := by omega
        refine j_aload_n dX0_post_60 0 rfl ?_
        refine j_iload dX0_post_61 5 rfl ?_
        refine j_bipush (v := nI 9) dX0_post_63 (by decide) ?_
        refine j_iconst (v := nI 1) dX0_post_65 (by decide) ?_
        refine j_V (w2 := (EW D E (upd (poN s (fun j => nu (i * 10 + j)) (pp s c) 9) (93 + 14 * (pp s c) + 9) (nI 1))) ++ (TW D X sg kd nu k n ic)) (st2 := []) (c_X0_setLetter E (poN s (fun j => nu (i * 10 + j)) (pp s c) 9) (pp s c) 9 (nI 1) (by omega) (by omega)) rfl cw_X0_95 dX0_post_66 [] rfl [0, 1, 2, 3, 4] rfl rfl rfl 0 ?_ ⟨rfl, ⟨Nat.le_of_ble_eq_true rfl, Nat.le_of_ble_eq_true rfl⟩, ⟨rfl, rfl⟩, ⟨Nat.le_of_ble_eq_true rfl, Nat.le_of_ble_eq_true rfl⟩, Nat.le_of_ble_eq_true rfl, rfl, rfl⟩ rfl rfl rfl
        refine j_aload_n dX0_post_69 0 rfl ?_
        refine j_iload dX0_post_70 5 rfl ?_
        refine j_bipush (v := nI 10) dX0_post_72 (by decide) ?_
        refine j_iconst (v := nI 0) dX0_post_74 (by decide) ?_
        refine j_V (w2 := (EW D E (upd (upd (poN s (fun j => nu (i * 10 + j)) (pp s c) 9) (93 + 14 * (pp s c) + 9) (nI 1)) (93 + 14 * (pp s c) + 10) (nI 0))) ++ (TW D X sg kd nu k n ic)) (st2 := []) (c_X0_setLetter E (upd (poN s (fun j => nu (i * 10 + j)) (pp s c) 9) (93 + 14 * (pp s c) + 9) (nI 1)) (pp s c) 10 (nI 0) (by omega) (by omega)) rfl cw_X0_95 dX0_post_75 [] rfl [0, 1, 2, 3, 4] rfl rfl rfl 0 ?_ ⟨rfl, ⟨Nat.le_of_ble_eq_true rfl, Nat.le_of_ble_eq_true rfl⟩, ⟨rfl, rfl⟩, ⟨Nat.le_of_ble_eq_true rfl, Nat.le_of_ble_eq_true rfl⟩, Nat.le_of_ble_eq_true rfl, rfl, rfl⟩ rfl rfl rfl
        refine j_w (w2 := (EW D E (po2 s (fun j => nu (i * 10 + j)) (pp s c))) ++ (TW D X sg kd nu k n ic)) (rfl) ?_
        refine j_aload_n dX0_post_78 0 rfl ?_
        refine j_iload dX0_post_79 5 rfl ?_
        refine j_bipush (v := nI 11) dX0_post_81 (by decide) ?_
        refine j_aload_n dX0_post_83 0 rfl ?_
        refine j_iload dX0_post_84 5 rfl ?_
        refine j_V (w2 := (EW D E (po2 s (fun j => nu (i * 10 + j)) (pp s c))) ++ (TW D X sg kd nu k n ic)) (st2 := [.int (gL (po2 s (fun j => nu (i * 10 + j)) (pp s c)) (pp s c) 2 * gL (po2 s (fun j => nu (i * 10 + j)) (pp s c)) (pp s c) 5), .int (nI 11), .int (nI (pp s c)), .ref (E 0)]) (c_X0_unitsOf E (po2 s (fun j => nu (i * 10 + j)) (pp s c)) (pp s c) (by omega)) rfl cw_X0_49 dX0_post_86 [.int (nI 11), .int (nI (pp s c)), .ref (E 0)] rfl [0, 1, 2, 3, 4] rfl rfl rfl 0 ?_ ⟨rfl, ⟨Nat.le_of_ble_eq_true rfl, Nat.le_of_ble_eq_true rfl⟩, ⟨rfl, rfl⟩, ⟨Nat.le_of_ble_eq_true rfl, Nat.le_of_ble_eq_true rfl⟩, Nat.le_of_ble_eq_true rfl, rfl, rfl⟩ rfl rfl rfl
        refine j_V (w2 := (EW D E (upd (po2 s (fun j => nu (i * 10 + j)) (pp s c)) (93 + 14 * (pp s c) + 11) (gL (po2 s (fun j => nu (i * 10 + j)) (pp s c)) (pp s c) 2 * gL (po2 s (fun j => nu (i * 10 + j)) (pp s c)) (pp s c) 5))) ++ (TW D X sg kd nu k n ic)) (st2 := []) (c_X0_setLetter E (po2 s (fun j => nu (i * 10 + j)) (pp s c)) (pp s c) 11 (gL (po2 s (fun j => nu (i * 10 + j)) (pp s c)) (pp s c) 2 * gL (po2 s (fun j => nu (i * 10 + j)) (pp s c)) (pp s c) 5) (by omega) (by omega)) rfl cw_X0_95 dX0_post_89 [] rfl [0, 1, 2, 3, 4] rfl rfl rfl 0 ?_ ⟨rfl, ⟨Nat.le_of_ble_eq_true rfl, Nat.le_of_ble_eq_true rfl⟩, ⟨rfl, rfl⟩, ⟨Nat.le_of_ble_eq_true rfl, Nat.le_of_ble_eq_true rfl⟩, Nat.le_of_ble_eq_true rfl, rfl, rfl⟩ rfl rfl rfl
        refine j_aload_n dX0_post_92 0 rfl ?_
        refine j_iload dX0_post_93 5 rfl ?_
        refine j_bipush (v := nI 12) dX0_post_95 (by decide) ?_
        refine j_iconst (v := nI 0) dX0_post_97 (by decide) ?_
        refine j_V (w2 := (EW D E (upd (upd (po2 s (fun j => nu (i * 10 + j)) (pp s c)) (93 + 14 * (pp s c) + 11) (gL (po2 s (fun j => nu (i * 10 + j)) (pp s c)) (pp s c) 2 * gL (po2 s (fun j => nu (i * 10 + j)) (pp s c)) (pp s c) 5)) (93 + 14 * (pp s c) + 12) (nI 0))) ++ (TW D X sg kd nu k n ic)) (st2 := []) (c_X0_setLetter E (upd (po2 s (fun j => nu (i * 10 + j)) (pp s c)) (93 + 14 * (pp s c) + 11) (gL (po2 s (fun j => nu (i * 10 + j)) (pp s c)) (pp s c) 2 * gL (po2 s (fun j => nu (i * 10 + j)) (pp s c)) (pp s c) 5)) (pp s c) 12 (nI 0) (by omega) (by omega)) rfl cw_X0_95 dX0_post_98 [] rfl [0, 1, 2, 3, 4] rfl rfl rfl 0 ?_ ⟨rfl, ⟨Nat.le_of_ble_eq_true rfl, Nat.le_of_ble_eq_true rfl⟩, ⟨rfl, rfl⟩, ⟨Nat.le_of_ble_eq_true rfl, Nat.le_of_ble_eq_true rfl⟩, Nat.le_of_ble_eq_true rfl, rfl, rfl⟩ rfl rfl rfl
        refine j_w (w2 := (EW D E (po3 s (fun j => nu (i * 10 + j)) (pp s c))) ++ (TW D X sg kd nu k n ic)) (rfl) ?_
        refine j_aload_n dX0_post_101 0 rfl ?_
        refine j_iload_n dX0_post_102 1 rfl ?_
        refine j_iconst (v := nI 3) dX0_post_103 (by decide) ?_
        refine j_iload dX0_post_104 4 rfl ?_
        refine j_S (w2 := (EW D E (po3 s (fun j => nu (i * 10 + j)) (pp s c))) ++ (TW D X sg kd nu k n ic)) (st2 := [.int (nI ((po s c + 1) % 6)), .int (nI 3), .int (nI c), .ref (E 0)]) (c_X0_slotBehind (po s c) (by omega)) rfl cw_X0_98 dX0_post_106 [.int (nI 3), .int (nI c), .ref (E 0)] rfl [] rfl rfl rfl ?_ ⟨rfl, ⟨Nat.le_of_ble_eq_true rfl, Nat.le_of_ble_eq_true rfl⟩, ⟨rfl, rfl⟩, ⟨Nat.le_of_ble_eq_true rfl, Nat.le_of_ble_eq_true rfl⟩, Nat.le_of_ble_eq_true rfl, rfl, rfl⟩
        refine j_V (w2 := (EW D E (upd (po3 s (fun j => nu (i * 10 + j)) (pp s c)) (64 + 7 * c + 3) (nI ((po s c + 1) % 6)))) ++ (TW D X sg kd nu k n ic)) (st2 := []) (c_X0_setChannel E (po3 s (fun j => nu (i * 10 + j)) (pp s c)) c 3 (nI ((po s c + 1) % 6)) (by omega) (by omega)) rfl cw_X0_91 dX0_post_109 [] rfl [0, 1, 2, 3, 4] rfl rfl rfl 0 ?_ ⟨rfl, ⟨Nat.le_of_ble_eq_true rfl, Nat.le_of_ble_eq_true rfl⟩, ⟨rfl, rfl⟩, ⟨Nat.le_of_ble_eq_true rfl, Nat.le_of_ble_eq_true rfl⟩, Nat.le_of_ble_eq_true rfl, rfl, rfl⟩ rfl rfl rfl
        refine j_iconst (v := nI 1) dX0_post_112 (by decide) ?_
        exact j_zret dX0_post_113 (rfl) ⟨rfl, rfl⟩ ⟨rfl, rfl⟩
      · skip
        refine j_aload_n dX0_post_37 0 rfl ?_
        refine j_iload dX0_post_38 5 rfl ?_
        refine j_iload dX0_post_40 6 rfl ?_
        refine j_aload_n dX0_post_42 2 rfl ?_
        refine j_iload_n dX0_post_43 3 rfl ?_
        refine j_iconst (v := nI 1) dX0_post_44 (by decide) ?_
        refine j_iload dX0_post_45 6 rfl ?_
        refine j_iadd (v := nI (1 + j)) dX0_post_47 (nI_add _ _) ?_
        refine j_V (w2 := (EW D E (poN s (fun j => nu (i * 10 + j)) (pp s c) j)) ++ (TW D X sg kd nu k n ic)) (st2 := [.int (nu (i * 10 + (1 + j))), .int (nI j), .int (nI (pp s c)), .ref (E 0)]) (c_X3_number X sg kd nu k n ic i (1 + j) (by omega) (by omega)) rfl cw_X0_79 dX0_post_48 [.int (nI j), .int (nI (pp s c)), .ref (E 0)] rfl [5, 6, 7, 8] rfl rfl rfl 3 ?_ ⟨rfl, ⟨Nat.le_of_ble_eq_true rfl, Nat.le_of_ble_eq_true rfl⟩, ⟨rfl, rfl⟩, ⟨Nat.le_of_ble_eq_true rfl, Nat.le_of_ble_eq_true rfl⟩, Nat.le_of_ble_eq_true rfl, rfl, rfl⟩ rfl rfl rfl
        refine j_V (w2 := (EW D E (upd (poN s (fun j => nu (i * 10 + j)) (pp s c) j) (93 + 14 * (pp s c) + j) (nu (i * 10 + (1 + j))))) ++ (TW D X sg kd nu k n ic)) (st2 := []) (c_X0_setLetter E (poN s (fun j => nu (i * 10 + j)) (pp s c) j) (pp s c) j (nu (i * 10 + (1 + j))) (by omega) (by omega)) rfl cw_X0_95 dX0_post_51 [] rfl [0, 1, 2, 3, 4] rfl rfl rfl 0 ?_ ⟨rfl, ⟨Nat.le_of_ble_eq_true rfl, Nat.le_of_ble_eq_true rfl⟩, ⟨rfl, rfl⟩, ⟨Nat.le_of_ble_eq_true rfl, Nat.le_of_ble_eq_true rfl⟩, Nat.le_of_ble_eq_true rfl, rfl, rfl⟩ rfl rfl rfl
        refine j_iinc (v := nI (j + 1)) (lv2 := [(0, .ref (E 0)), (1, .int (nI c)), (2, .ref (X 0)), (3, .int (nI i)), (4, .int (nI (po s c))), (5, .int (nI (pp s c))), (6, .int (nI (j + 1)))]) dX0_post_54 6 rfl (nI_1 _) (by decide) [1, 2, 3, 4, 5, 6, 0] rfl ?_
        refine j_goto (tgt := 30) dX0_post_57 (by decide) ?_
        exact ih (j + 1) (by omega) (by omega)
  exact L30 10 0 (by omega) (by omega)

set_option maxHeartbeats 4000000 in
set_option maxRecDepth 100000 in
theorem c_X0_take (E X : Nat → Nat) (s sg kd nu : SS) (k n ic : Nat) (hI : Inv s) (i : Nat) (hi : i < 24) (hv : ItOk (kd i) (fun j => nu (i * 10 + j))) : Ct D yX0_take cX0_take 4 (some .boolean) ({ frames := 3, cells := 0, slots := 0, locals := 69 } : Room) [.ref (E 0), .ref (X 0), .int (nI i)] ((EW D E s) ++ (TW D X sg kd nu k n ic)) (fun v_ u_ => v_ = some (.int (bI (okI s (kd i) (fun j => nu (i * 10 + j))))) ∧ u_ = (EW D E (if okI s (kd i) (fun j => nu (i * 10 + j)) = true then doI s (kd i) (fun j => nu (i * 10 + j)) else s)) ++ (TW D X sg kd nu k n ic)) := by
  refine ct_of (by decide) (Nat.le_of_ble_eq_true rfl) (lv0 := [(0, .ref (E 0)), (1, .ref (X 0)), (2, .int (nI i))]) rfl (fun Γ => ?_)
  by_cases h108 : kd i = 108
  · skip
    have hl := hv.l h108
    have hlc := hl.1.2
    have hok : okI s (kd i) (fun j => nu (i * 10 + j)) = !eng s (pp s (vc (fun j => nu (i * 10 + j)))) := if_pos h108
    have hdo : doI s (kd i) (fun j => nu (i * 10 + j)) = poF s (vc (fun j => nu (i * 10 + j))) (fun j => nu (i * 10 + j)) := if_pos h108
    refine j_aload_n dX0_take_0 1 rfl ?_
    refine j_iload_n dX0_take_1 2 rfl ?_
    refine j_iconst (v := nI 0) dX0_take_2 (by decide) ?_
    refine j_V (w2 := (EW D E s) ++ (TW D X sg kd nu k n ic)) (st2 := [.int (nu (i * 10 + 0))]) (c_X3_number X sg kd nu k n ic i 0 (by omega) (by omega)) rfl cw_X0_79 dX0_take_3 [] rfl [5, 6, 7, 8] rfl rfl rfl 3 ?_ ⟨rfl, ⟨Nat.le_of_ble_eq_true rfl, Nat.le_of_ble_eq_true rfl⟩, ⟨rfl, rfl⟩, ⟨Nat.le_of_ble_eq_true rfl, Nat.le_of_ble_eq_true rfl⟩, Nat.le_of_ble_eq_true rfl, rfl, rfl⟩ rfl rfl rfl
    refine j_topi (v := nI (vc (fun j => nu (i * 10 + j)))) (hl.1.1) ?_
    refine j_istore_n (lv2 := [(0, .ref (E 0)), (1, .ref (X 0)), (2, .int (nI i)), (3, .int (nI (vc (fun j => nu (i * 10 + j)))))]) dX0_take_6 (by decide) [1, 2, 3, 0] rfl ?_
    refine j_aload_n dX0_take_7 1 rfl ?_
    refine j_iload_n dX0_take_8 2 rfl ?_
    refine j_V (w2 := (EW D E s) ++ (TW D X sg kd nu k n ic)) (st2 := [.int (kd i)]) (c_X3_kind X sg kd nu k n ic i (by omega)) rfl cw_X0_84 dX0_take_9 [] rfl [5, 6, 7, 8] rfl rfl rfl 3 ?_ ⟨rfl, ⟨Nat.le_of_ble_eq_true rfl, Nat.le_of_ble_eq_true rfl⟩, ⟨rfl, rfl⟩, ⟨Nat.le_of_ble_eq_true rfl, Nat.le_of_ble_eq_true rfl⟩, Nat.le_of_ble_eq_true rfl, rfl, rfl⟩ rfl rfl rfl
    refine j_lookup (off := 28) (tgt := 40) dX0_take_12 (by decide) (by rw [h108]; rfl) (by decide) ?_
    refine j_aload_n dX0_take_40 0 rfl ?_
    refine j_iload_n dX0_take_41 3 rfl ?_
    refine j_aload_n dX0_take_42 1 rfl ?_
    refine j_iload_n dX0_take_43 2 rfl ?_
    rcases he : eng s (pp s (vc (fun j => nu (i * 10 + j)))) with _ | _
    · skip
      refine j_V (w2 := (EW D E (poF s (vc (fun j => nu (i * 10 + j))) (fun j => nu (i * 10 + j)))) ++ (TW D X sg kd nu k n ic)) (st2 := [.int (bI true)]) (c_X0_post E X s sg kd nu k n ic hI (vc (fun j => nu (i * 10 + j))) i (by omega) (by omega) he) rfl cw_X0_87 dX0_take_44 [] rfl [0, 1, 2, 3, 4, 5, 6, 7, 8] rfl rfl rfl 0 ?_ ⟨rfl, ⟨Nat.le_of_ble_eq_true rfl, Nat.le_of_ble_eq_true rfl⟩, ⟨rfl, rfl⟩, ⟨Nat.le_of_ble_eq_true rfl, Nat.le_of_ble_eq_true rfl⟩, Nat.le_of_ble_eq_true rfl, rfl, rfl⟩ rfl rfl rfl
      exact j_zret dX0_take_47 (rfl) ⟨rfl, rfl⟩ ⟨rv_tB (by rw [hok, he]; rfl), by rw [hok, he, hdo]; rfl⟩
    · skip
      refine j_V (w2 := (EW D E s) ++ (TW D X sg kd nu k n ic)) (st2 := [.int (bI false)]) (c_X0_post_full E X s sg kd nu k n ic hI (vc (fun j => nu (i * 10 + j))) i (by omega) (by omega) he) rfl cw_X0_87 dX0_take_44 [] rfl [0, 1, 2, 3, 4, 5, 6, 7, 8] rfl rfl rfl 0 ?_ ⟨rfl, ⟨Nat.le_of_ble_eq_true rfl, Nat.le_of_ble_eq_true rfl⟩, ⟨rfl, rfl⟩, ⟨Nat.le_of_ble_eq_true rfl, Nat.le_of_ble_eq_true rfl⟩, Nat.le_of_ble_eq_true rfl, rfl, rfl⟩ rfl rfl rfl
      exact j_zret dX0_take_47 (rfl) ⟨rfl, rfl⟩ ⟨rv_fB (by rw [hok, he]; rfl), by rw [hok, he]; rfl⟩
  · skip
    have hok : okI s (kd i) (fun j => nu (i * 10 + j)) = true := if_neg h108
    by_cases h102 : kd i = 102
    · skip
      have hf := hv.f h102
      have hfc := hf.2
      have hdo : doI s (kd i) (fun j => nu (i * 10 + j)) = upd s (vc (fun j => nu (i * 10 + j))) ((fun j => nu (i * 10 + j)) 1) := (if_neg h108).trans (if_pos h102)
      refine j_aload_n dX0_take_0 1 rfl ?_
      refine j_iload_n dX0_take_1 2 rfl ?_
      refine j_iconst (v := nI 0) dX0_take_2 (by decide) ?_
      refine j_V (w2 := (EW D E s) ++ (TW D X sg kd nu k n ic)) (st2 := [.int (nu (i * 10 + 0))]) (c_X3_number X sg kd nu k n ic i 0 (by omega) (by omega)) rfl cw_X0_79 dX0_take_3 [] rfl [5, 6, 7, 8] rfl rfl rfl 3 ?_ ⟨rfl, ⟨Nat.le_of_ble_eq_true rfl, Nat.le_of_ble_eq_true rfl⟩, ⟨rfl, rfl⟩, ⟨Nat.le_of_ble_eq_true rfl, Nat.le_of_ble_eq_true rfl⟩, Nat.le_of_ble_eq_true rfl, rfl, rfl⟩ rfl rfl rfl
      refine j_topi (v := nI (vc (fun j => nu (i * 10 + j)))) (hf.1) ?_
      refine j_istore_n (lv2 := [(0, .ref (E 0)), (1, .ref (X 0)), (2, .int (nI i)), (3, .int (nI (vc (fun j => nu (i * 10 + j)))))]) dX0_take_6 (by decide) [1, 2, 3, 0] rfl ?_
      refine j_aload_n dX0_take_7 1 rfl ?_
      refine j_iload_n dX0_take_8 2 rfl ?_
      refine j_V (w2 := (EW D E s) ++ (TW D X sg kd nu k n ic)) (st2 := [.int (kd i)]) (c_X3_kind X sg kd nu k n ic i (by omega)) rfl cw_X0_84 dX0_take_9 [] rfl [5, 6, 7, 8] rfl rfl rfl 3 ?_ ⟨rfl, ⟨Nat.le_of_ble_eq_true rfl, Nat.le_of_ble_eq_true rfl⟩, ⟨rfl, rfl⟩, ⟨Nat.le_of_ble_eq_true rfl, Nat.le_of_ble_eq_true rfl⟩, Nat.le_of_ble_eq_true rfl, rfl, rfl⟩ rfl rfl rfl
      refine j_lookup (off := 36) (tgt := 48) dX0_take_12 (by decide) (by rw [h102]; rfl) (by decide) ?_
      refine j_aload_n dX0_take_48 0 rfl ?_
      refine g_X0_9 rfl dX0_take_49 0 rfl rfl ?_
      refine j_iload_n dX0_take_52 3 rfl ?_
      refine j_aload_n dX0_take_53 1 rfl ?_
      refine j_iload_n dX0_take_54 2 rfl ?_
      refine j_iconst (v := nI 1) dX0_take_55 (by decide) ?_
      refine j_V (w2 := (EW D E s) ++ (TW D X sg kd nu k n ic)) (st2 := [.int (nu (i * 10 + 1)), .int (nI (vc (fun j => nu (i * 10 + j)))), .ref (E 1)]) (c_X3_number X sg kd nu k n ic i 1 (by omega) (by omega)) rfl cw_X0_79 dX0_take_56 [.int (nI (vc (fun j => nu (i * 10 + j)))), .ref (E 1)] rfl [5, 6, 7, 8] rfl rfl rfl 3 ?_ ⟨rfl, ⟨Nat.le_of_ble_eq_true rfl, Nat.le_of_ble_eq_true rfl⟩, ⟨rfl, rfl⟩, ⟨Nat.le_of_ble_eq_true rfl, Nat.le_of_ble_eq_true rfl⟩, Nat.le_of_ble_eq_true rfl, rfl, rfl⟩ rfl rfl rfl
      refine j_iast (w2 := (EW D E (upd s (vc (fun j => nu (i * 10 + j))) ((fun j => nu (i * 10 + j)) 1))) ++ (TW D X sg kd nu k n ic)) dX0_take_59 1 (vc (fun j => nu (i * 10 + j))) rfl (rfl) (by omega) (Nat.le_of_ble_eq_true rfl) (by rw [← EW_M (D := D) (E := E) hfc]; rfl) ?_
      refine j_iconst (v := nI 1) dX0_take_60 (by decide) ?_
      exact j_zret dX0_take_61 (rfl) ⟨rfl, rfl⟩ ⟨rv_t hok, by rw [hok, hdo]; rfl⟩
    · skip
      have hcc := hv.c (hv.d h108 h102)
      have hcc1 := hcc.1.2
      have h99 := hv.d h108 h102
      have hdo : doI s (kd i) (fun j => nu (i * 10 + j)) = upd (upd s (64 + 7 * (vc (fun j => nu (i * 10 + j))) + 1) ((fun j => nu (i * 10 + j)) 1)) (64 + 7 * (vc (fun j => nu (i * 10 + j))) + 2) ((fun j => nu (i * 10 + j)) 2) := (if_neg h108).trans (if_neg h102)
      refine j_aload_n dX0_take_0 1 rfl ?_
      refine j_iload_n dX0_take_1 2 rfl ?_
      refine j_iconst (v := nI 0) dX0_take_2 (by decide) ?_
      refine j_V (w2 := (EW D E s) ++ (TW D X sg kd nu k n ic)) (st2 := [.int (nu (i * 10 + 0))]) (c_X3_number X sg kd nu k n ic i 0 (by omega) (by omega)) rfl cw_X0_79 dX0_take_3 [] rfl [5, 6, 7, 8] rfl rfl rfl 3 ?_ ⟨rfl, ⟨Nat.le_of_ble_eq_true rfl, Nat.le_of_ble_eq_true rfl⟩, ⟨rfl, rfl⟩, ⟨Nat.le_of_ble_eq_true rfl, Nat.le_of_ble_eq_true rfl⟩, Nat.le_of_ble_eq_true rfl, rfl, rfl⟩ rfl rfl rfl
      refine j_topi (v := nI (vc (fun j => nu (i * 10 + j)))) (hcc.1.1) ?_
      refine j_istore_n (lv2 := [(0, .ref (E 0)), (1, .ref (X 0)), (2, .int (nI i)), (3, .int (nI (vc (fun j => nu (i * 10 + j)))))]) dX0_take_6 (by decide) [1, 2, 3, 0] rfl ?_
      refine j_aload_n dX0_take_7 1 rfl ?_
      refine j_iload_n dX0_take_8 2 rfl ?_
      refine j_V (w2 := (EW D E s) ++ (TW D X sg kd nu k n ic)) (st2 := [.int (kd i)]) (c_X3_kind X sg kd nu k n ic i (by omega)) rfl cw_X0_84 dX0_take_9 [] rfl [5, 6, 7, 8] rfl rfl rfl 3 ?_ ⟨rfl, ⟨Nat.le_of_ble_eq_true rfl, Nat.le_of_ble_eq_true rfl⟩, ⟨rfl, rfl⟩, ⟨Nat.le_of_ble_eq_true rfl, Nat.le_of_ble_eq_true rfl⟩, Nat.le_of_ble_eq_true rfl, rfl, rfl⟩ rfl rfl rfl
      refine j_lookup (off := 50) (tgt := 62) dX0_take_12 (by decide) (by rw [h99]; rfl) (by decide) ?_
      refine j_aload_n dX0_take_62 0 rfl ?_
      refine j_iload_n dX0_take_63 3 rfl ?_
      refine j_iconst (v := nI 1) dX0_take_64 (by decide) ?_
      refine j_aload_n dX0_take_65 1 rfl ?_
      refine j_iload_n dX0_take_66 2 rfl ?_
      refine j_iconst (v := nI 1) dX0_take_67 (by decide) ?_
      refine j_V (w2 := (EW D E s) ++ (TW D X sg kd nu k n ic)) (st2 := [.int (nu (i * 10 + 1)), .int (nI 1), .int (nI (vc (fun j => nu (i * 10 + j)))), .ref (E 0)]) (c_X3_number X sg kd nu k n ic i 1 (by omega) (by omega)) rfl cw_X0_79 dX0_take_68 [.int (nI 1), .int (nI (vc (fun j => nu (i * 10 + j)))), .ref (E 0)] rfl [5, 6, 7, 8] rfl rfl rfl 3 ?_ ⟨rfl, ⟨Nat.le_of_ble_eq_true rfl, Nat.le_of_ble_eq_true rfl⟩, ⟨rfl, rfl⟩, ⟨Nat.le_of_ble_eq_true rfl, Nat.le_of_ble_eq_true rfl⟩, Nat.le_of_ble_eq_true rfl, rfl, rfl⟩ rfl rfl rfl
      refine j_V (w2 := (EW D E (upd s (64 + 7 * (vc (fun j => nu (i * 10 + j))) + 1) (nu (i * 10 + 1)))) ++ (TW D X sg kd nu k n ic)) (st2 := []) (c_X0_setChannel E s (vc (fun j => nu (i * 10 + j))) 1 (nu (i * 10 + 1)) (by omega) (by omega)) rfl cw_X0_91 dX0_take_71 [] rfl [0, 1, 2, 3, 4] rfl rfl rfl 0 ?_ ⟨rfl, ⟨Nat.le_of_ble_eq_true rfl, Nat.le_of_ble_eq_true rfl⟩, ⟨rfl, rfl⟩, ⟨Nat.le_of_ble_eq_true rfl, Nat.le_of_ble_eq_true rfl⟩, Nat.le_of_ble_eq_true rfl, rfl, rfl⟩ rfl rfl rfl
      refine j_aload_n dX0_take_74 0 rfl ?_
      refine j_iload_n dX0_take_75 3 rfl ?_
      refine j_iconst (v := nI 2) dX0_take_76 (by decide) ?_
      refine j_aload_n dX0_take_77 1 rfl ?_
      refine j_iload_n dX0_take_78 2 rfl ?_
      refine j_iconst (v := nI 2) dX0_take_79 (by decide) ?_
      refine j_V (w2 := (EW D E (upd s (64 + 7 * (vc (fun j => nu (i * 10 + j))) + 1) (nu (i * 10 + 1)))) ++ (TW D X sg kd nu k n ic)) (st2 := [.int (nu (i * 10 + 2)), .int (nI 2), .int (nI (vc (fun j => nu (i * 10 + j)))), .ref (E 0)]) (c_X3_number X sg kd nu k n ic i 2 (by omega) (by omega)) rfl cw_X0_79 dX0_take_80 [.int (nI 2), .int (nI (vc (fun j => nu (i * 10 + j)))), .ref (E 0)] rfl [5, 6, 7, 8] rfl rfl rfl 3 ?_ ⟨rfl, ⟨Nat.le_of_ble_eq_true rfl, Nat.le_of_ble_eq_true rfl⟩, ⟨rfl, rfl⟩, ⟨Nat.le_of_ble_eq_true rfl, Nat.le_of_ble_eq_true rfl⟩, Nat.le_of_ble_eq_true rfl, rfl, rfl⟩ rfl rfl rfl
      refine j_V (w2 := (EW D E (upd (upd s (64 + 7 * (vc (fun j => nu (i * 10 + j))) + 1) (nu (i * 10 + 1))) (64 + 7 * (vc (fun j => nu (i * 10 + j))) + 2) (nu (i * 10 + 2)))) ++ (TW D X sg kd nu k n ic)) (st2 := []) (c_X0_setChannel E (upd s (64 + 7 * (vc (fun j => nu (i * 10 + j))) + 1) (nu (i * 10 + 1))) (vc (fun j => nu (i * 10 + j))) 2 (nu (i * 10 + 2)) (by omega) (by omega)) rfl cw_X0_91 dX0_take_83 [] rfl [0, 1, 2, 3, 4] rfl rfl rfl 0 ?_ ⟨rfl, ⟨Nat.le_of_ble_eq_true rfl, Nat.le_of_ble_eq_true rfl⟩, ⟨rfl, rfl⟩, ⟨Nat.le_of_ble_eq_true rfl, Nat.le_of_ble_eq_true rfl⟩, Nat.le_of_ble_eq_true rfl, rfl, rfl⟩ rfl rfl rfl
      refine j_iconst (v := nI 1) dX0_take_86 (by decide) ?_
      exact j_zret dX0_take_87 (rfl) ⟨rfl, rfl⟩ ⟨rv_t hok, by rw [hok, hdo]; rfl⟩

end EN4
end
