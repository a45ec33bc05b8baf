section
-- ===== PART A: goes FIRST, ahead of the names: the tables' words, and 'selects' of the private methods out of them =====
/-- a private method of a class that the tables say can be made, by its rows of tables_1 -/
def lw_okq (q : MethodName × Nat) : Prop := (q.1.cls ≠ "java/lang/invoke/MethodHandle" ∧ q.1.cls ≠ "java/lang/invoke/VarHandle") ∧ Cond.instantiable q.1.cls q.2 ∈ tables_1 ∧ Cond.privateMethod q.1 ∈ tables_1 ∧ Cond.instanceMethod q.1 ∈ tables_1
theorem lw_p0 : lw_okq (⟨"FlashBoot$Flash", "tearNextAct", "()Z"⟩, 6) := ⟨⟨by decide +kernel, by decide +kernel⟩, List.mem_of_getElem? (i := 20) (by decide +kernel), List.mem_of_getElem? (i := 164) (by decide +kernel), List.mem_of_getElem? (i := 165) (by decide +kernel)⟩
theorem lw_p1 : lw_okq (⟨"FlashBoot", "unlessTorn", "(I)I"⟩, 9) := ⟨⟨by decide +kernel, by decide +kernel⟩, List.mem_of_getElem? (i := 12) (by decide +kernel), List.mem_of_getElem? (i := 210) (by decide +kernel), List.mem_of_getElem? (i := 211) (by decide +kernel)⟩
theorem lw_p2 : lw_okq (⟨"FlashBoot", "judgeTape", "()I"⟩, 9) := ⟨⟨by decide +kernel, by decide +kernel⟩, List.mem_of_getElem? (i := 12) (by decide +kernel), List.mem_of_getElem? (i := 218) (by decide +kernel), List.mem_of_getElem? (i := 219) (by decide +kernel)⟩
theorem lw_p3 : lw_okq (⟨"FlashBoot", "isOurs", "()Z"⟩, 9) := ⟨⟨by decide +kernel, by decide +kernel⟩, List.mem_of_getElem? (i := 12) (by decide +kernel), List.mem_of_getElem? (i := 249) (by decide +kernel), List.mem_of_getElem? (i := 250) (by decide +kernel)⟩
theorem lw_p4 : lw_okq (⟨"FlashBoot$Manifest", "word", "(I)I"⟩, 1) := ⟨⟨by decide +kernel, by decide +kernel⟩, List.mem_of_getElem? (i := 81) (by decide +kernel), List.mem_of_getElem? (i := 258) (by decide +kernel), List.mem_of_getElem? (i := 259) (by decide +kernel)⟩
theorem lw_p5 : lw_okq (⟨"FlashBoot", "isOld", "(I)Z"⟩, 9) := ⟨⟨by decide +kernel, by decide +kernel⟩, List.mem_of_getElem? (i := 12) (by decide +kernel), List.mem_of_getElem? (i := 267) (by decide +kernel), List.mem_of_getElem? (i := 268) (by decide +kernel)⟩
theorem lw_p6 : lw_okq (⟨"FlashBoot", "slot", "(I)LFlashBoot$Slot;"⟩, 9) := ⟨⟨by decide +kernel, by decide +kernel⟩, List.mem_of_getElem? (i := 12) (by decide +kernel), List.mem_of_getElem? (i := 285) (by decide +kernel), List.mem_of_getElem? (i := 286) (by decide +kernel)⟩
theorem lw_p7 : lw_okq (⟨"FlashBoot", "stageAnew", "()V"⟩, 9) := ⟨⟨by decide +kernel, by decide +kernel⟩, List.mem_of_getElem? (i := 12) (by decide +kernel), List.mem_of_getElem? (i := 299) (by decide +kernel), List.mem_of_getElem? (i := 300) (by decide +kernel)⟩
theorem lw_p8 : lw_okq (⟨"FlashBoot", "readStagedManifest", "()Z"⟩, 9) := ⟨⟨by decide +kernel, by decide +kernel⟩, List.mem_of_getElem? (i := 12) (by decide +kernel), List.mem_of_getElem? (i := 308) (by decide +kernel), List.mem_of_getElem? (i := 309) (by decide +kernel)⟩
theorem lw_p9 : lw_okq (⟨"FlashBoot", "blockLength", "(I)I"⟩, 9) := ⟨⟨by decide +kernel, by decide +kernel⟩, List.mem_of_getElem? (i := 12) (by decide +kernel), List.mem_of_getElem? (i := 323) (by decide +kernel), List.mem_of_getElem? (i := 324) (by decide +kernel)⟩
theorem lw_p10 : lw_okq (⟨"FlashBoot", "isThere", "(I)Z"⟩, 9) := ⟨⟨by decide +kernel, by decide +kernel⟩, List.mem_of_getElem? (i := 12) (by decide +kernel), List.mem_of_getElem? (i := 330) (by decide +kernel), List.mem_of_getElem? (i := 331) (by decide +kernel)⟩
theorem lw_p11 : lw_okq (⟨"FlashBoot", "isWhollyStaged", "()Z"⟩, 9) := ⟨⟨by decide +kernel, by decide +kernel⟩, List.mem_of_getElem? (i := 12) (by decide +kernel), List.mem_of_getElem? (i := 339) (by decide +kernel), List.mem_of_getElem? (i := 340) (by decide +kernel)⟩
theorem lw_p12 : lw_okq (⟨"FlashBoot", "makeImage", "(LFlashBoot$Slot;)Z"⟩, 9) := ⟨⟨by decide +kernel, by decide +kernel⟩, List.mem_of_getElem? (i := 12) (by decide +kernel), List.mem_of_getElem? (i := 343) (by decide +kernel), List.mem_of_getElem? (i := 344) (by decide +kernel)⟩
theorem lw_p13 : lw_okq (⟨"FlashBoot$Patch", "take", "(LFlashBoot$Flash;II)Z"⟩, 2) := ⟨⟨by decide +kernel, by decide +kernel⟩, List.mem_of_getElem? (i := 92) (by decide +kernel), List.mem_of_getElem? (i := 378) (by decide +kernel), List.mem_of_getElem? (i := 379) (by decide +kernel)⟩
theorem lw_p14 : lw_okq (⟨"FlashBoot$Patch", "takeBase", "(LFlashBoot$Flash;IIII)Z"⟩, 2) := ⟨⟨by decide +kernel, by decide +kernel⟩, List.mem_of_getElem? (i := 92) (by decide +kernel), List.mem_of_getElem? (i := 382) (by decide +kernel), List.mem_of_getElem? (i := 383) (by decide +kernel)⟩
theorem lw_p15 : lw_okq (⟨"FlashBoot", "programUpdate", "(LFlashBoot$Slot;)V"⟩, 9) := ⟨⟨by decide +kernel, by decide +kernel⟩, List.mem_of_getElem? (i := 12) (by decide +kernel), List.mem_of_getElem? (i := 391) (by decide +kernel), List.mem_of_getElem? (i := 392) (by decide +kernel)⟩
def lw_privs_1 : List (MethodName × Nat) := [(⟨"FlashBoot$Flash", "tearNextAct", "()Z"⟩, 6), (⟨"FlashBoot", "unlessTorn", "(I)I"⟩, 9), (⟨"FlashBoot", "judgeTape", "()I"⟩, 9), (⟨"FlashBoot", "isOurs", "()Z"⟩, 9), (⟨"FlashBoot$Manifest", "word", "(I)I"⟩, 1), (⟨"FlashBoot", "isOld", "(I)Z"⟩, 9), (⟨"FlashBoot", "slot", "(I)LFlashBoot$Slot;"⟩, 9), (⟨"FlashBoot", "stageAnew", "()V"⟩, 9), (⟨"FlashBoot", "readStagedManifest", "()Z"⟩, 9), (⟨"FlashBoot", "blockLength", "(I)I"⟩, 9), (⟨"FlashBoot", "isThere", "(I)Z"⟩, 9), (⟨"FlashBoot", "isWhollyStaged", "()Z"⟩, 9), (⟨"FlashBoot", "makeImage", "(LFlashBoot$Slot;)Z"⟩, 9), (⟨"FlashBoot$Patch", "take", "(LFlashBoot$Flash;II)Z"⟩, 2), (⟨"FlashBoot$Patch", "takeBase", "(LFlashBoot$Flash;IIII)Z"⟩, 2), (⟨"FlashBoot", "programUpdate", "(LFlashBoot$Slot;)V"⟩, 9)]
theorem lw_r1 : ∀ q ∈ lw_privs_1, lw_okq q := List.forall_mem_cons.mpr ⟨lw_p0, List.forall_mem_cons.mpr ⟨lw_p1, List.forall_mem_cons.mpr ⟨lw_p2, List.forall_mem_cons.mpr ⟨lw_p3, List.forall_mem_cons.mpr ⟨lw_p4, List.forall_mem_cons.mpr ⟨lw_p5, List.forall_mem_cons.mpr ⟨lw_p6, List.forall_mem_cons.mpr ⟨lw_p7, List.forall_mem_cons.mpr ⟨lw_p8, List.forall_mem_cons.mpr ⟨lw_p9, List.forall_mem_cons.mpr ⟨lw_p10, List.forall_mem_cons.mpr ⟨lw_p11, List.forall_mem_cons.mpr ⟨lw_p12, List.forall_mem_cons.mpr ⟨lw_p13, List.forall_mem_cons.mpr ⟨lw_p14, List.forall_mem_cons.mpr ⟨lw_p15, fun _ h => absurd h List.not_mem_nil⟩⟩⟩⟩⟩⟩⟩⟩⟩⟩⟩⟩⟩⟩⟩⟩
theorem lw_p16 : lw_okq (⟨"FlashBoot", "slotOnTrial", "()I"⟩, 9) := ⟨⟨by decide +kernel, by decide +kernel⟩, List.mem_of_getElem? (i := 12) (by decide +kernel), List.mem_of_getElem? (i := 403) (by decide +kernel), List.mem_of_getElem? (i := 404) (by decide +kernel)⟩
theorem lw_p17 : lw_okq (⟨"FlashBoot", "isGood", "(LFlashBoot$Slot;)Z"⟩, 9) := ⟨⟨by decide +kernel, by decide +kernel⟩, List.mem_of_getElem? (i := 12) (by decide +kernel), List.mem_of_getElem? (i := 407) (by decide +kernel), List.mem_of_getElem? (i := 408) (by decide +kernel)⟩
theorem lw_p18 : lw_okq (⟨"FlashBoot", "later", "(ZZ)I"⟩, 9) := ⟨⟨by decide +kernel, by decide +kernel⟩, List.mem_of_getElem? (i := 12) (by decide +kernel), List.mem_of_getElem? (i := 432) (by decide +kernel), List.mem_of_getElem? (i := 433) (by decide +kernel)⟩
theorem lw_p19 : lw_okq (⟨"FlashBoot", "slotConfirmed", "()I"⟩, 9) := ⟨⟨by decide +kernel, by decide +kernel⟩, List.mem_of_getElem? (i := 12) (by decide +kernel), List.mem_of_getElem? (i := 436) (by decide +kernel), List.mem_of_getElem? (i := 437) (by decide +kernel)⟩
theorem lw_p20 : lw_okq (⟨"FlashBoot", "raiseCounter", "(I)V"⟩, 9) := ⟨⟨by decide +kernel, by decide +kernel⟩, List.mem_of_getElem? (i := 12) (by decide +kernel), List.mem_of_getElem? (i := 453) (by decide +kernel), List.mem_of_getElem? (i := 454) (by decide +kernel)⟩
theorem lw_p21 : lw_okq (⟨"FlashBoot", "clearCounterBit", "()V"⟩, 9) := ⟨⟨by decide +kernel, by decide +kernel⟩, List.mem_of_getElem? (i := 12) (by decide +kernel), List.mem_of_getElem? (i := 457) (by decide +kernel), List.mem_of_getElem? (i := 458) (by decide +kernel)⟩
theorem lw_p22 : lw_okq (⟨"FlashBootModel", "erase", "(I)V"⟩, 13) := ⟨⟨by decide +kernel, by decide +kernel⟩, List.mem_of_getElem? (i := 490) (by decide +kernel), List.mem_of_getElem? (i := 545) (by decide +kernel), List.mem_of_getElem? (i := 546) (by decide +kernel)⟩
theorem lw_p23 : lw_okq (⟨"FlashBootModel", "isWhole", "()Z"⟩, 13) := ⟨⟨by decide +kernel, by decide +kernel⟩, List.mem_of_getElem? (i := 490) (by decide +kernel), List.mem_of_getElem? (i := 549) (by decide +kernel), List.mem_of_getElem? (i := 550) (by decide +kernel)⟩
theorem lw_p24 : lw_okq (⟨"FlashBootModel", "program", "(II)V"⟩, 13) := ⟨⟨by decide +kernel, by decide +kernel⟩, List.mem_of_getElem? (i := 490) (by decide +kernel), List.mem_of_getElem? (i := 553) (by decide +kernel), List.mem_of_getElem? (i := 554) (by decide +kernel)⟩
theorem lw_p25 : lw_okq (⟨"FlashBootModel", "writeHeader", "(IIII)V"⟩, 13) := ⟨⟨by decide +kernel, by decide +kernel⟩, List.mem_of_getElem? (i := 490) (by decide +kernel), List.mem_of_getElem? (i := 561) (by decide +kernel), List.mem_of_getElem? (i := 562) (by decide +kernel)⟩
theorem lw_p26 : lw_okq (⟨"FlashBootModel", "isInRange", "(Z)Z"⟩, 13) := ⟨⟨by decide +kernel, by decide +kernel⟩, List.mem_of_getElem? (i := 490) (by decide +kernel), List.mem_of_getElem? (i := 575) (by decide +kernel), List.mem_of_getElem? (i := 576) (by decide +kernel)⟩
theorem lw_p27 : lw_okq (⟨"FlashBootModel", "manifestByte", "(ZI)I"⟩, 13) := ⟨⟨by decide +kernel, by decide +kernel⟩, List.mem_of_getElem? (i := 490) (by decide +kernel), List.mem_of_getElem? (i := 579) (by decide +kernel), List.mem_of_getElem? (i := 580) (by decide +kernel)⟩
theorem lw_p28 : lw_okq (⟨"FlashBootModel", "isTagged", "(Z)Z"⟩, 13) := ⟨⟨by decide +kernel, by decide +kernel⟩, List.mem_of_getElem? (i := 490) (by decide +kernel), List.mem_of_getElem? (i := 586) (by decide +kernel), List.mem_of_getElem? (i := 587) (by decide +kernel)⟩
theorem lw_p29 : lw_okq (⟨"FlashBootModel", "manifestFour", "(ZI)I"⟩, 13) := ⟨⟨by decide +kernel, by decide +kernel⟩, List.mem_of_getElem? (i := 490) (by decide +kernel), List.mem_of_getElem? (i := 590) (by decide +kernel), List.mem_of_getElem? (i := 591) (by decide +kernel)⟩
theorem lw_p30 : lw_okq (⟨"FlashBootModel", "isOld", "(Z)Z"⟩, 13) := ⟨⟨by decide +kernel, by decide +kernel⟩, List.mem_of_getElem? (i := 490) (by decide +kernel), List.mem_of_getElem? (i := 594) (by decide +kernel), List.mem_of_getElem? (i := 595) (by decide +kernel)⟩
theorem lw_p31 : lw_okq (⟨"FlashBootModel", "counterValue", "()I"⟩, 13) := ⟨⟨by decide +kernel, by decide +kernel⟩, List.mem_of_getElem? (i := 490) (by decide +kernel), List.mem_of_getElem? (i := 598) (by decide +kernel), List.mem_of_getElem? (i := 599) (by decide +kernel)⟩
def lw_privs_2 : List (MethodName × Nat) := [(⟨"FlashBoot", "slotOnTrial", "()I"⟩, 9), (⟨"FlashBoot", "isGood", "(LFlashBoot$Slot;)Z"⟩, 9), (⟨"FlashBoot", "later", "(ZZ)I"⟩, 9), (⟨"FlashBoot", "slotConfirmed", "()I"⟩, 9), (⟨"FlashBoot", "raiseCounter", "(I)V"⟩, 9), (⟨"FlashBoot", "clearCounterBit", "()V"⟩, 9), (⟨"FlashBootModel", "erase", "(I)V"⟩, 13), (⟨"FlashBootModel", "isWhole", "()Z"⟩, 13), (⟨"FlashBootModel", "program", "(II)V"⟩, 13), (⟨"FlashBootModel", "writeHeader", "(IIII)V"⟩, 13), (⟨"FlashBootModel", "isInRange", "(Z)Z"⟩, 13), (⟨"FlashBootModel", "manifestByte", "(ZI)I"⟩, 13), (⟨"FlashBootModel", "isTagged", "(Z)Z"⟩, 13), (⟨"FlashBootModel", "manifestFour", "(ZI)I"⟩, 13), (⟨"FlashBootModel", "isOld", "(Z)Z"⟩, 13), (⟨"FlashBootModel", "counterValue", "()I"⟩, 13)]
theorem lw_r2 : ∀ q ∈ lw_privs_2, lw_okq q := List.forall_mem_cons.mpr ⟨lw_p16, List.forall_mem_cons.mpr ⟨lw_p17, List.forall_mem_cons.mpr ⟨lw_p18, List.forall_mem_cons.mpr ⟨lw_p19, List.forall_mem_cons.mpr ⟨lw_p20, List.forall_mem_cons.mpr ⟨lw_p21, List.forall_mem_cons.mpr ⟨lw_p22, List.forall_mem_cons.mpr ⟨lw_p23, List.forall_mem_cons.mpr ⟨lw_p24, List.forall_mem_cons.mpr ⟨lw_p25, List.forall_mem_cons.mpr ⟨lw_p26, List.forall_mem_cons.mpr ⟨lw_p27, List.forall_mem_cons.mpr ⟨lw_p28, List.forall_mem_cons.mpr ⟨lw_p29, List.forall_mem_cons.mpr ⟨lw_p30, List.forall_mem_cons.mpr ⟨lw_p31, fun _ h => absurd h List.not_mem_nil⟩⟩⟩⟩⟩⟩⟩⟩⟩⟩⟩⟩⟩⟩⟩⟩
theorem lw_p32 : lw_okq (⟨"FlashBootModel", "sequenceOf", "(I)I"⟩, 13) := ⟨⟨by decide +kernel, by decide +kernel⟩, List.mem_of_getElem? (i := 490) (by decide +kernel), List.mem_of_getElem? (i := 605) (by decide +kernel), List.mem_of_getElem? (i := 606) (by decide +kernel)⟩
theorem lw_p33 : lw_okq (⟨"FlashBootModel", "isRight", "()Z"⟩, 13) := ⟨⟨by decide +kernel, by decide +kernel⟩, List.mem_of_getElem? (i := 490) (by decide +kernel), List.mem_of_getElem? (i := 613) (by decide +kernel), List.mem_of_getElem? (i := 614) (by decide +kernel)⟩
theorem lw_p34 : lw_okq (⟨"FlashBootModel", "blocks", "()I"⟩, 13) := ⟨⟨by decide +kernel, by decide +kernel⟩, List.mem_of_getElem? (i := 490) (by decide +kernel), List.mem_of_getElem? (i := 617) (by decide +kernel), List.mem_of_getElem? (i := 618) (by decide +kernel)⟩
theorem lw_p35 : lw_okq (⟨"FlashBootModel", "four", "(I)I"⟩, 13) := ⟨⟨by decide +kernel, by decide +kernel⟩, List.mem_of_getElem? (i := 490) (by decide +kernel), List.mem_of_getElem? (i := 625) (by decide +kernel), List.mem_of_getElem? (i := 626) (by decide +kernel)⟩
theorem lw_p36 : lw_okq (⟨"FlashBootModel", "digestOf", "(II)I"⟩, 13) := ⟨⟨by decide +kernel, by decide +kernel⟩, List.mem_of_getElem? (i := 490) (by decide +kernel), List.mem_of_getElem? (i := 629) (by decide +kernel), List.mem_of_getElem? (i := 630) (by decide +kernel)⟩
theorem lw_p37 : lw_okq (⟨"FlashBootModel", "patches", "(II)Z"⟩, 13) := ⟨⟨by decide +kernel, by decide +kernel⟩, List.mem_of_getElem? (i := 490) (by decide +kernel), List.mem_of_getElem? (i := 636) (by decide +kernel), List.mem_of_getElem? (i := 637) (by decide +kernel)⟩
theorem lw_p38 : lw_okq (⟨"FlashBootModel", "add", "(I)V"⟩, 13) := ⟨⟨by decide +kernel, by decide +kernel⟩, List.mem_of_getElem? (i := 490) (by decide +kernel), List.mem_of_getElem? (i := 640) (by decide +kernel), List.mem_of_getElem? (i := 641) (by decide +kernel)⟩
theorem lw_p39 : lw_okq (⟨"FlashBootModel", "best", "(Z)I"⟩, 13) := ⟨⟨by decide +kernel, by decide +kernel⟩, List.mem_of_getElem? (i := 490) (by decide +kernel), List.mem_of_getElem? (i := 648) (by decide +kernel), List.mem_of_getElem? (i := 649) (by decide +kernel)⟩
theorem lw_p40 : lw_okq (⟨"FlashBootModel", "isGood", "(I)Z"⟩, 13) := ⟨⟨by decide +kernel, by decide +kernel⟩, List.mem_of_getElem? (i := 490) (by decide +kernel), List.mem_of_getElem? (i := 652) (by decide +kernel), List.mem_of_getElem? (i := 653) (by decide +kernel)⟩
theorem lw_p41 : lw_okq (⟨"FlashBootModel", "isConfirmed", "(I)Z"⟩, 13) := ⟨⟨by decide +kernel, by decide +kernel⟩, List.mem_of_getElem? (i := 490) (by decide +kernel), List.mem_of_getElem? (i := 656) (by decide +kernel), List.mem_of_getElem? (i := 657) (by decide +kernel)⟩
def lw_privs_3 : List (MethodName × Nat) := [(⟨"FlashBootModel", "sequenceOf", "(I)I"⟩, 13), (⟨"FlashBootModel", "isRight", "()Z"⟩, 13), (⟨"FlashBootModel", "blocks", "()I"⟩, 13), (⟨"FlashBootModel", "four", "(I)I"⟩, 13), (⟨"FlashBootModel", "digestOf", "(II)I"⟩, 13), (⟨"FlashBootModel", "patches", "(II)Z"⟩, 13), (⟨"FlashBootModel", "add", "(I)V"⟩, 13), (⟨"FlashBootModel", "best", "(Z)I"⟩, 13), (⟨"FlashBootModel", "isGood", "(I)Z"⟩, 13), (⟨"FlashBootModel", "isConfirmed", "(I)Z"⟩, 13)]
theorem lw_r3 : ∀ q ∈ lw_privs_3, lw_okq q := List.forall_mem_cons.mpr ⟨lw_p32, List.forall_mem_cons.mpr ⟨lw_p33, List.forall_mem_cons.mpr ⟨lw_p34, List.forall_mem_cons.mpr ⟨lw_p35, List.forall_mem_cons.mpr ⟨lw_p36, List.forall_mem_cons.mpr ⟨lw_p37, List.forall_mem_cons.mpr ⟨lw_p38, List.forall_mem_cons.mpr ⟨lw_p39, List.forall_mem_cons.mpr ⟨lw_p40, List.forall_mem_cons.mpr ⟨lw_p41, fun _ h => absurd h List.not_mem_nil⟩⟩⟩⟩⟩⟩⟩⟩⟩⟩
def lw_privs : List (MethodName × Nat) := lw_privs_1 ++ (lw_privs_2 ++ (lw_privs_3))
def lw_tbl : List Cond := k2_sels lw_privs ++ tables_1
theorem lw_privs_ok : ∀ q ∈ lw_privs, lw_okq q := by
  show ∀ q ∈ lw_privs_1 ++ (lw_privs_2 ++ (lw_privs_3)), lw_okq q
  exact List.forall_mem_append.mpr ⟨lw_r1, List.forall_mem_append.mpr ⟨lw_r2, lw_r3⟩⟩
-- ===== end of PART A; then your names; then what follows =====
end
section
/-! ===== BEGIN words of one list among another's, by their places ===== -/
theorem goodIn_r {big : List Cond} (ws : List Cond) (ps : List Nat) (hp : ws = ps.filterMap (fun i => big[i]?)) (h : ws.all goodWord = true) : GoodIn big ws := by
  intro w hw
  have h1 := List.all_eq_true.mp h w hw
  rw [hp] at hw
  obtain ⟨i, -, hi⟩ := List.mem_filterMap.mp hw
  have hm : w ∈ big := by first | exact List.mem_of_getElem? hi | exact List.getElem?_mem hi
  exact ⟨hm, good_of_word h1⟩
theorem goodIn_app {big a b : List Cond} (ha : GoodIn big a) (hb : GoodIn big b) : GoodIn big (a ++ b) := fun w h => (List.mem_append.mp h).elim (ha w) (hb w)
theorem goodIn_ca {big a b : List Cond} {c : Cond} (ha : GoodIn big (c :: a)) (hb : GoodIn big b) : GoodIn big (c :: (a ++ b)) := fun w h => (List.mem_cons.mp h).elim (fun e => ha w (List.mem_cons.mpr (Or.inl e))) (fun h => (List.mem_append.mp h).elim (fun h => ha w (List.mem_cons.mpr (Or.inr h))) (hb w))
theorem goodIn_sub {big ws : List Cond} (hm : ∀ w ∈ ws, w ∈ big) (h : ws.all goodWord = true) : GoodIn big ws := fun w hw => ⟨hm w hw, good_of_word (List.all_eq_true.mp h w hw)⟩
/-! ===== END ===== -/

/-! ===== BEGIN printed: names, fields, word lists, decode rows ===== -/
def RX0 : String := "FlashBoot$Flash"
def TX0 : u_T := fun k => match k with
  | 0 => ("FlashBoot$Flash", "bytes", "[I", true)
  | 1 => ("FlashBoot$Flash", "power", "Z", false)
  | 2 => ("FlashBoot$Flash", "actsDone", "I", false)
  | 3 => ("FlashBoot$Flash", "crashIsSet", "Z", false)
  | 4 => ("FlashBoot$Flash", "actsToCrash", "I", false)
  | _ => ("FlashBoot$Flash", "crashMask", "I", false)
def tyX0 : Nat → FieldType := fun k => match k with
  | 0 => .array .int
  | 1 => .boolean
  | 2 => .int
  | 3 => .boolean
  | 4 => .int
  | _ => .int
abbrev wsX00 : List Cond := u_ws RX0 TX0 6
theorem nmX0 : ∀ a, a < 6 → ∀ b, b < 6 → a ≠ b → (TX0 a).2.1 ≠ (TX0 b).2.1 := by decide +kernel
theorem tyX0_ok : ∀ k, k < 6 → parseFieldDescriptor (TX0 k).2.2.1 = some (tyX0 k) := by decide +kernel
abbrev cX0_init : ByteArray := prog_2_method_1_code
def yX0_init : MethodName := ⟨RX0, "<init>", "()V"⟩
abbrev cX0_at : ByteArray := prog_2_method_2_code
def yX0_at : MethodName := ⟨RX0, "at", "(I)I"⟩
abbrev cX0_setCrash : ByteArray := prog_2_method_3_code
def yX0_setCrash : MethodName := ⟨RX0, "setCrash", "(II)V"⟩
abbrev cX0_erase : ByteArray := prog_2_method_4_code
def yX0_erase : MethodName := ⟨RX0, "erase", "(I)V"⟩
abbrev cX0_program : ByteArray := prog_2_method_5_code
def yX0_program : MethodName := ⟨RX0, "program", "(II)V"⟩
abbrev cX0_tearNextAct : ByteArray := prog_2_method_6_code
def yX0_tearNextAct : MethodName := ⟨RX0, "tearNextAct", "()Z"⟩
abbrev cX0_programRow : ByteArray := prog_2_method_7_code
def yX0_programRow : MethodName := ⟨RX0, "programRow", "(I[II)V"⟩
abbrev cX0_programWord : ByteArray := prog_2_method_8_code
def yX0_programWord : MethodName := ⟨RX0, "programWord", "(II)V"⟩
abbrev cX0_programLowestBit : ByteArray := prog_2_method_9_code
def yX0_programLowestBit : MethodName := ⟨RX0, "programLowestBit", "(I)V"⟩
abbrev cX0_word : ByteArray := prog_2_method_10_code
def yX0_word : MethodName := ⟨RX0, "word", "(I)I"⟩
abbrev cX0_digestOf : ByteArray := prog_2_method_11_code
def yX0_digestOf : MethodName := ⟨RX0, "digestOf", "(II)I"⟩
def RX1 : String := "FlashBoot$Manifest"
def TX1 : u_T := fun k => match k with
  | _ => ("FlashBoot$Manifest", "bytes", "[I", true)
def tyX1 : Nat → FieldType := fun k => match k with
  | _ => .array .int
abbrev wsX10 : List Cond := u_ws RX1 TX1 1
theorem nmX1 : ∀ a, a < 1 → ∀ b, b < 1 → a ≠ b → (TX1 a).2.1 ≠ (TX1 b).2.1 := by decide +kernel
theorem tyX1_ok : ∀ k, k < 1 → parseFieldDescriptor (TX1 k).2.2.1 = some (tyX1 k) := by decide +kernel
abbrev cX1_init : ByteArray := prog_3_method_1_code
def yX1_init : MethodName := ⟨RX1, "<init>", "()V"⟩
abbrev cX1_readTape : ByteArray := prog_3_method_2_code
def yX1_readTape : MethodName := ⟨RX1, "readTape", "(LFlashBoot$Tape;)V"⟩
abbrev cX1_readPage : ByteArray := prog_3_method_3_code
def yX1_readPage : MethodName := ⟨RX1, "readPage", "(LFlashBoot$Flash;)V"⟩
abbrev cX1_standsIn : ByteArray := prog_3_method_4_code
def yX1_standsIn : MethodName := ⟨RX1, "standsIn", "(LFlashBoot$Flash;)Z"⟩
abbrev cX1_vendor : ByteArray := prog_3_method_5_code
def yX1_vendor : MethodName := ⟨RX1, "vendor", "()I"⟩
abbrev cX1_sequence : ByteArray := prog_3_method_6_code
def yX1_sequence : MethodName := ⟨RX1, "sequence", "()I"⟩
abbrev cX1_baseDigest : ByteArray := prog_3_method_7_code
def yX1_baseDigest : MethodName := ⟨RX1, "baseDigest", "()I"⟩
abbrev cX1_payloadLength : ByteArray := prog_3_method_8_code
def yX1_payloadLength : MethodName := ⟨RX1, "payloadLength", "()I"⟩
abbrev cX1_payloadDigest : ByteArray := prog_3_method_9_code
def yX1_payloadDigest : MethodName := ⟨RX1, "payloadDigest", "()I"⟩
abbrev cX1_imageLength : ByteArray := prog_3_method_10_code
def yX1_imageLength : MethodName := ⟨RX1, "imageLength", "()I"⟩
abbrev cX1_imageDigest : ByteArray := prog_3_method_11_code
def yX1_imageDigest : MethodName := ⟨RX1, "imageDigest", "()I"⟩
abbrev cX1_isInRange : ByteArray := prog_3_method_12_code
def yX1_isInRange : MethodName := ⟨RX1, "isInRange", "()Z"⟩
abbrev cX1_isTagged : ByteArray := prog_3_method_13_code
def yX1_isTagged : MethodName := ⟨RX1, "isTagged", "([I)Z"⟩
abbrev cX1_word : ByteArray := prog_3_method_14_code
def yX1_word : MethodName := ⟨RX1, "word", "(I)I"⟩
def RX2 : String := "FlashBoot$Patch"
def TX2 : u_T := fun k => match k with
  | 0 => ("FlashBoot$Patch", "image", "[I", true)
  | _ => ("FlashBoot$Patch", "made", "I", false)
def tyX2 : Nat → FieldType := fun k => match k with
  | 0 => .array .int
  | _ => .int
abbrev wsX20 : List Cond := u_ws RX2 TX2 2
theorem nmX2 : ∀ a, a < 2 → ∀ b, b < 2 → a ≠ b → (TX2 a).2.1 ≠ (TX2 b).2.1 := by decide +kernel
theorem tyX2_ok : ∀ k, k < 2 → parseFieldDescriptor (TX2 k).2.2.1 = some (tyX2 k) := by decide +kernel
abbrev cX2_init : ByteArray := prog_4_method_1_code
def yX2_init : MethodName := ⟨RX2, "<init>", "()V"⟩
abbrev cX2_unfold : ByteArray := prog_4_method_2_code
def yX2_unfold : MethodName := ⟨RX2, "unfold", "(LFlashBoot$Flash;III)Z"⟩
abbrev cX2_takeBase : ByteArray := prog_4_method_3_code
def yX2_takeBase : MethodName := ⟨RX2, "takeBase", "(LFlashBoot$Flash;IIII)Z"⟩
abbrev cX2_take : ByteArray := prog_4_method_4_code
def yX2_take : MethodName := ⟨RX2, "take", "(LFlashBoot$Flash;II)Z"⟩
def RX3 : String := "FlashBoot$Slot"
def TX3 : u_T := fun k => match k with
  | 0 => ("FlashBoot$Slot", "firstPage", "I", true)
  | 1 => ("FlashBoot$Slot", "start", "I", true)
  | _ => ("FlashBoot$Slot", "header", "I", true)
def tyX3 : Nat → FieldType := fun k => match k with
  | 0 => .int
  | 1 => .int
  | _ => .int
abbrev wsX30 : List Cond := u_ws RX3 TX3 3
theorem nmX3 : ∀ a, a < 3 → ∀ b, b < 3 → a ≠ b → (TX3 a).2.1 ≠ (TX3 b).2.1 := by decide +kernel
theorem tyX3_ok : ∀ k, k < 3 → parseFieldDescriptor (TX3 k).2.2.1 = some (tyX3 k) := by decide +kernel
abbrev cX3_init : ByteArray := prog_5_method_1_code
def yX3_init : MethodName := ⟨RX3, "<init>", "(I)V"⟩
abbrev cX3_length : ByteArray := prog_5_method_2_code
def yX3_length : MethodName := ⟨RX3, "length", "(LFlashBoot$Flash;)I"⟩
abbrev cX3_sequence : ByteArray := prog_5_method_3_code
def yX3_sequence : MethodName := ⟨RX3, "sequence", "(LFlashBoot$Flash;)I"⟩
abbrev cX3_digest : ByteArray := prog_5_method_4_code
def yX3_digest : MethodName := ⟨RX3, "digest", "(LFlashBoot$Flash;)I"⟩
abbrev cX3_isConfirmed : ByteArray := prog_5_method_5_code
def yX3_isConfirmed : MethodName := ⟨RX3, "isConfirmed", "(LFlashBoot$Flash;)Z"⟩
abbrev cX3_isOnTrial : ByteArray := prog_5_method_6_code
def yX3_isOnTrial : MethodName := ⟨RX3, "isOnTrial", "(LFlashBoot$Flash;)Z"⟩
abbrev cX3_isWhole : ByteArray := prog_5_method_7_code
def yX3_isWhole : MethodName := ⟨RX3, "isWhole", "(LFlashBoot$Flash;)Z"⟩
abbrev cX3_isGood : ByteArray := prog_5_method_8_code
def yX3_isGood : MethodName := ⟨RX3, "isGood", "(LFlashBoot$Flash;I)Z"⟩
abbrev cX3_eraseHeader : ByteArray := prog_5_method_9_code
def yX3_eraseHeader : MethodName := ⟨RX3, "eraseHeader", "(LFlashBoot$Flash;)V"⟩
abbrev cX3_eraseImage : ByteArray := prog_5_method_10_code
def yX3_eraseImage : MethodName := ⟨RX3, "eraseImage", "(LFlashBoot$Flash;)V"⟩
abbrev cX3_programImage : ByteArray := prog_5_method_11_code
def yX3_programImage : MethodName := ⟨RX3, "programImage", "(LFlashBoot$Flash;[II)V"⟩
abbrev cX3_programName : ByteArray := prog_5_method_12_code
def yX3_programName : MethodName := ⟨RX3, "programName", "(LFlashBoot$Flash;III)V"⟩
abbrev cX3_programTrials : ByteArray := prog_5_method_13_code
def yX3_programTrials : MethodName := ⟨RX3, "programTrials", "(LFlashBoot$Flash;)V"⟩
abbrev cX3_useTrial : ByteArray := prog_5_method_14_code
def yX3_useTrial : MethodName := ⟨RX3, "useTrial", "(LFlashBoot$Flash;)V"⟩
abbrev cX3_programConfirmed : ByteArray := prog_5_method_15_code
def yX3_programConfirmed : MethodName := ⟨RX3, "programConfirmed", "(LFlashBoot$Flash;)V"⟩
abbrev cX3_programWhole : ByteArray := prog_5_method_16_code
def yX3_programWhole : MethodName := ⟨RX3, "programWhole", "(LFlashBoot$Flash;)V"⟩
def RX4 : String := "FlashBoot$Tape"
def TX4 : u_T := fun k => match k with
  | 0 => ("FlashBoot$Tape", "bytes", "[I", true)
  | _ => ("FlashBoot$Tape", "length", "I", false)
def tyX4 : Nat → FieldType := fun k => match k with
  | 0 => .array .int
  | _ => .int
abbrev wsX40 : List Cond := u_ws RX4 TX4 2
theorem nmX4 : ∀ a, a < 2 → ∀ b, b < 2 → a ≠ b → (TX4 a).2.1 ≠ (TX4 b).2.1 := by decide +kernel
theorem tyX4_ok : ∀ k, k < 2 → parseFieldDescriptor (TX4 k).2.2.1 = some (tyX4 k) := by decide +kernel
abbrev cX4_init : ByteArray := prog_6_method_1_code
def yX4_init : MethodName := ⟨RX4, "<init>", "()V"⟩
abbrev cX4_add : ByteArray := prog_6_method_2_code
def yX4_add : MethodName := ⟨RX4, "add", "(JI)Z"⟩
def RX5 : String := "FlashBoot"
def TX5 : u_T := fun k => match k with
  | 0 => ("FlashBoot", "keyBytes", "[I", true)
  | 1 => ("FlashBoot", "vendorByte", "I", true)
  | 2 => ("FlashBoot", "flash", "LFlashBoot$Flash;", true)
  | 3 => ("FlashBoot", "tape", "LFlashBoot$Tape;", true)
  | 4 => ("FlashBoot", "lower", "LFlashBoot$Slot;", true)
  | 5 => ("FlashBoot", "upper", "LFlashBoot$Slot;", true)
  | 6 => ("FlashBoot", "order", "LFlashBoot$Manifest;", true)
  | 7 => ("FlashBoot", "patch", "LFlashBoot$Patch;", true)
  | _ => ("FlashBoot", "runs", "I", false)
def tyX5 : Nat → FieldType := fun k => match k with
  | 0 => .array .int
  | 1 => .int
  | 2 => .object "FlashBoot$Flash"
  | 3 => .object "FlashBoot$Tape"
  | 4 => .object "FlashBoot$Slot"
  | 5 => .object "FlashBoot$Slot"
  | 6 => .object "FlashBoot$Manifest"
  | 7 => .object "FlashBoot$Patch"
  | _ => .int
abbrev wsX50 : List Cond := u_ws RX5 TX5 9
theorem nmX5 : ∀ a, a < 9 → ∀ b, b < 9 → a ≠ b → (TX5 a).2.1 ≠ (TX5 b).2.1 := by decide +kernel
theorem tyX5_ok : ∀ k, k < 9 → parseFieldDescriptor (TX5 k).2.2.1 = some (tyX5 k) := by decide +kernel
abbrev cX5_init : ByteArray := prog_1_method_1_code
def yX5_init : MethodName := ⟨RX5, "<init>", "(III)V"⟩
abbrev cX5_type : ByteArray := prog_1_method_2_code
def yX5_type : MethodName := ⟨RX5, "type", "(JI)I"⟩
abbrev cX5_factory : ByteArray := prog_1_method_3_code
def yX5_factory : MethodName := ⟨RX5, "factory", "(I)I"⟩
abbrev cX5_manifest : ByteArray := prog_1_method_4_code
def yX5_manifest : MethodName := ⟨RX5, "manifest", "()I"⟩
abbrev cX5_block : ByteArray := prog_1_method_5_code
def yX5_block : MethodName := ⟨RX5, "block", "(I)I"⟩
abbrev cX5_install : ByteArray := prog_1_method_6_code
def yX5_install : MethodName := ⟨RX5, "install", "()I"⟩
abbrev cX5_boot : ByteArray := prog_1_method_7_code
def yX5_boot : MethodName := ⟨RX5, "boot", "()I"⟩
abbrev cX5_confirm : ByteArray := prog_1_method_8_code
def yX5_confirm : MethodName := ⟨RX5, "confirm", "()I"⟩
abbrev cX5_crash : ByteArray := prog_1_method_9_code
def yX5_crash : MethodName := ⟨RX5, "crash", "(II)I"⟩
abbrev cX5_running : ByteArray := prog_1_method_10_code
def yX5_running : MethodName := ⟨RX5, "running", "()I"⟩
abbrev cX5_counter : ByteArray := prog_1_method_11_code
def yX5_counter : MethodName := ⟨RX5, "counter", "()I"⟩
abbrev cX5_acts : ByteArray := prog_1_method_12_code
def yX5_acts : MethodName := ⟨RX5, "acts", "()I"⟩
abbrev cX5_byteOf : ByteArray := prog_1_method_13_code
def yX5_byteOf : MethodName := ⟨RX5, "byteOf", "(I)I"⟩
abbrev cX5_good : ByteArray := prog_1_method_14_code
def yX5_good : MethodName := ⟨RX5, "good", "(I)I"⟩
abbrev cX5_slot : ByteArray := prog_1_method_15_code
def yX5_slot : MethodName := ⟨RX5, "slot", "(I)LFlashBoot$Slot;"⟩
abbrev cX5_unlessTorn : ByteArray := prog_1_method_16_code
def yX5_unlessTorn : MethodName := ⟨RX5, "unlessTorn", "(I)I"⟩
abbrev cX5_isSequence : ByteArray := prog_1_method_17_code
def yX5_isSequence : MethodName := ⟨RX5, "isSequence", "(I)Z"⟩
abbrev cX5_isLength : ByteArray := prog_1_method_18_code
def yX5_isLength : MethodName := ⟨RX5, "isLength", "(I)Z"⟩
abbrev cX5_judgeTape : ByteArray := prog_1_method_19_code
def yX5_judgeTape : MethodName := ⟨RX5, "judgeTape", "()I"⟩
abbrev cX5_isOurs : ByteArray := prog_1_method_20_code
def yX5_isOurs : MethodName := ⟨RX5, "isOurs", "()Z"⟩
abbrev cX5_isOld : ByteArray := prog_1_method_21_code
def yX5_isOld : MethodName := ⟨RX5, "isOld", "(I)Z"⟩
abbrev cX5_stageAnew : ByteArray := prog_1_method_22_code
def yX5_stageAnew : MethodName := ⟨RX5, "stageAnew", "()V"⟩
abbrev cX5_readStagedManifest : ByteArray := prog_1_method_23_code
def yX5_readStagedManifest : MethodName := ⟨RX5, "readStagedManifest", "()Z"⟩
abbrev cX5_isBlockOf : ByteArray := prog_1_method_24_code
def yX5_isBlockOf : MethodName := ⟨RX5, "isBlockOf", "(II)Z"⟩
abbrev cX5_blocksOf : ByteArray := prog_1_method_25_code
def yX5_blocksOf : MethodName := ⟨RX5, "blocksOf", "(I)I"⟩
abbrev cX5_blockLength : ByteArray := prog_1_method_26_code
def yX5_blockLength : MethodName := ⟨RX5, "blockLength", "(I)I"⟩
abbrev cX5_isThere : ByteArray := prog_1_method_27_code
def yX5_isThere : MethodName := ⟨RX5, "isThere", "(I)Z"⟩
abbrev cX5_isWhollyStaged : ByteArray := prog_1_method_28_code
def yX5_isWhollyStaged : MethodName := ⟨RX5, "isWhollyStaged", "()Z"⟩
abbrev cX5_makeImage : ByteArray := prog_1_method_29_code
def yX5_makeImage : MethodName := ⟨RX5, "makeImage", "(LFlashBoot$Slot;)Z"⟩
abbrev cX5_programUpdate : ByteArray := prog_1_method_30_code
def yX5_programUpdate : MethodName := ⟨RX5, "programUpdate", "(LFlashBoot$Slot;)V"⟩
abbrev cX5_slotOnTrial : ByteArray := prog_1_method_31_code
def yX5_slotOnTrial : MethodName := ⟨RX5, "slotOnTrial", "()I"⟩
abbrev cX5_slotConfirmed : ByteArray := prog_1_method_32_code
def yX5_slotConfirmed : MethodName := ⟨RX5, "slotConfirmed", "()I"⟩
abbrev cX5_isGood : ByteArray := prog_1_method_33_code
def yX5_isGood : MethodName := ⟨RX5, "isGood", "(LFlashBoot$Slot;)Z"⟩
abbrev cX5_later : ByteArray := prog_1_method_34_code
def yX5_later : MethodName := ⟨RX5, "later", "(ZZ)I"⟩
abbrev cX5_raiseCounter : ByteArray := prog_1_method_35_code
def yX5_raiseCounter : MethodName := ⟨RX5, "raiseCounter", "(I)V"⟩
abbrev cX5_clearCounterBit : ByteArray := prog_1_method_36_code
def yX5_clearCounterBit : MethodName := ⟨RX5, "clearCounterBit", "()V"⟩
abbrev cX5_digest : ByteArray := prog_1_method_37_code
def yX5_digest : MethodName := ⟨RX5, "digest", "(I[II)I"⟩
abbrev cX5_digestByte : ByteArray := prog_1_method_38_code
def yX5_digestByte : MethodName := ⟨RX5, "digestByte", "(II)I"⟩
abbrev cX5_byteOfWord : ByteArray := prog_1_method_39_code
def yX5_byteOfWord : MethodName := ⟨RX5, "byteOfWord", "(II)I"⟩
abbrev cX5_rowOfWords : ByteArray := prog_1_method_40_code
def yX5_rowOfWords : MethodName := ⟨RX5, "rowOfWords", "(II)[I"⟩
def RX6 : String := "FlashBootModel"
def TX6 : u_T := fun k => match k with
  | 0 => ("FlashBootModel", "thrown", "I", false)
  | 1 => ("FlashBootModel", "flash", "[I", true)
  | 2 => ("FlashBootModel", "keys", "[I", true)
  | 3 => ("FlashBootModel", "vendor", "I", true)
  | 4 => ("FlashBootModel", "tape", "[I", true)
  | 5 => ("FlashBootModel", "length", "I", false)
  | 6 => ("FlashBootModel", "power", "Z", false)
  | 7 => ("FlashBootModel", "runs", "I", false)
  | 8 => ("FlashBootModel", "left", "I", false)
  | 9 => ("FlashBootModel", "mask", "I", false)
  | 10 => ("FlashBootModel", "acts", "I", false)
  | 11 => ("FlashBootModel", "image", "[I", true)
  | _ => ("FlashBootModel", "made", "I", false)
def tyX6 : Nat → FieldType := fun k => match k with
  | 0 => .int
  | 1 => .array .int
  | 2 => .array .int
  | 3 => .int
  | 4 => .array .int
  | 5 => .int
  | 6 => .boolean
  | 7 => .int
  | 8 => .int
  | 9 => .int
  | 10 => .int
  | 11 => .array .int
  | _ => .int
abbrev wsX60 : List Cond := u_ws RX6 TX6 13
theorem nmX6 : ∀ a, a < 13 → ∀ b, b < 13 → a ≠ b → (TX6 a).2.1 ≠ (TX6 b).2.1 := by decide +kernel
theorem tyX6_ok : ∀ k, k < 13 → parseFieldDescriptor (TX6 k).2.2.1 = some (tyX6 k) := by decide +kernel
abbrev cX6_init : ByteArray := prog_8_method_1_code
def yX6_init : MethodName := ⟨RX6, "<init>", "(III)V"⟩
abbrev cX6_isWhole : ByteArray := prog_8_method_3_code
def yX6_isWhole : MethodName := ⟨RX6, "isWhole", "()Z"⟩
abbrev cX6_erase : ByteArray := prog_8_method_4_code
def yX6_erase : MethodName := ⟨RX6, "erase", "(I)V"⟩
abbrev cX6_program : ByteArray := prog_8_method_5_code
def yX6_program : MethodName := ⟨RX6, "program", "(II)V"⟩
abbrev cX6_digested : ByteArray := prog_8_method_6_code
def yX6_digested : MethodName := ⟨RX6, "digested", "(II)I"⟩
abbrev cX6_digestOf : ByteArray := prog_8_method_7_code
def yX6_digestOf : MethodName := ⟨RX6, "digestOf", "(II)I"⟩
abbrev cX6_four : ByteArray := prog_8_method_8_code
def yX6_four : MethodName := ⟨RX6, "four", "(I)I"⟩
abbrev cX6_part : ByteArray := prog_8_method_9_code
def yX6_part : MethodName := ⟨RX6, "part", "(II)I"⟩
abbrev cX6_imageAt : ByteArray := prog_8_method_10_code
def yX6_imageAt : MethodName := ⟨RX6, "imageAt", "(I)I"⟩
abbrev cX6_headerAt : ByteArray := prog_8_method_11_code
def yX6_headerAt : MethodName := ⟨RX6, "headerAt", "(I)I"⟩
abbrev cX6_ones : ByteArray := prog_8_method_12_code
def yX6_ones : MethodName := ⟨RX6, "ones", "(I)I"⟩
abbrev cX6_counterValue : ByteArray := prog_8_method_13_code
def yX6_counterValue : MethodName := ⟨RX6, "counterValue", "()I"⟩
abbrev cX6_sequenceOf : ByteArray := prog_8_method_14_code
def yX6_sequenceOf : MethodName := ⟨RX6, "sequenceOf", "(I)I"⟩
abbrev cX6_isGood : ByteArray := prog_8_method_15_code
def yX6_isGood : MethodName := ⟨RX6, "isGood", "(I)Z"⟩
abbrev cX6_isConfirmed : ByteArray := prog_8_method_16_code
def yX6_isConfirmed : MethodName := ⟨RX6, "isConfirmed", "(I)Z"⟩
abbrev cX6_lessOne : ByteArray := prog_8_method_17_code
def yX6_lessOne : MethodName := ⟨RX6, "lessOne", "(I)I"⟩
abbrev cX6_type : ByteArray := prog_8_method_18_code
def yX6_type : MethodName := ⟨RX6, "type", "(JI)I"⟩
abbrev cX6_factory : ByteArray := prog_8_method_19_code
def yX6_factory : MethodName := ⟨RX6, "factory", "(I)I"⟩
abbrev cX6_writeHeader : ByteArray := prog_8_method_20_code
def yX6_writeHeader : MethodName := ⟨RX6, "writeHeader", "(IIII)V"⟩
abbrev cX6_manifestByte : ByteArray := prog_8_method_21_code
def yX6_manifestByte : MethodName := ⟨RX6, "manifestByte", "(ZI)I"⟩
abbrev cX6_manifestFour : ByteArray := prog_8_method_22_code
def yX6_manifestFour : MethodName := ⟨RX6, "manifestFour", "(ZI)I"⟩
abbrev cX6_isIn : ByteArray := prog_8_method_23_code
def yX6_isIn : MethodName := ⟨RX6, "isIn", "(III)Z"⟩
abbrev cX6_isInRange : ByteArray := prog_8_method_24_code
def yX6_isInRange : MethodName := ⟨RX6, "isInRange", "(Z)Z"⟩
abbrev cX6_isTagged : ByteArray := prog_8_method_25_code
def yX6_isTagged : MethodName := ⟨RX6, "isTagged", "(Z)Z"⟩
abbrev cX6_isRight : ByteArray := prog_8_method_26_code
def yX6_isRight : MethodName := ⟨RX6, "isRight", "()Z"⟩
abbrev cX6_isOld : ByteArray := prog_8_method_27_code
def yX6_isOld : MethodName := ⟨RX6, "isOld", "(Z)Z"⟩
abbrev cX6_manifest : ByteArray := prog_8_method_28_code
def yX6_manifest : MethodName := ⟨RX6, "manifest", "()I"⟩
abbrev cX6_blocks : ByteArray := prog_8_method_29_code
def yX6_blocks : MethodName := ⟨RX6, "blocks", "()I"⟩
abbrev cX6_block : ByteArray := prog_8_method_30_code
def yX6_block : MethodName := ⟨RX6, "block", "(I)I"⟩
abbrev cX6_add : ByteArray := prog_8_method_31_code
def yX6_add : MethodName := ⟨RX6, "add", "(I)V"⟩
abbrev cX6_patches : ByteArray := prog_8_method_32_code
def yX6_patches : MethodName := ⟨RX6, "patches", "(II)Z"⟩
abbrev cX6_install : ByteArray := prog_8_method_33_code
def yX6_install : MethodName := ⟨RX6, "install", "()I"⟩
abbrev cX6_best : ByteArray := prog_8_method_34_code
def yX6_best : MethodName := ⟨RX6, "best", "(Z)I"⟩
abbrev cX6_boot : ByteArray := prog_8_method_35_code
def yX6_boot : MethodName := ⟨RX6, "boot", "()I"⟩
abbrev cX6_confirm : ByteArray := prog_8_method_36_code
def yX6_confirm : MethodName := ⟨RX6, "confirm", "()I"⟩
abbrev cX6_crash : ByteArray := prog_8_method_37_code
def yX6_crash : MethodName := ⟨RX6, "crash", "(II)I"⟩
abbrev cX6_running : ByteArray := prog_8_method_38_code
def yX6_running : MethodName := ⟨RX6, "running", "()I"⟩
abbrev cX6_counter : ByteArray := prog_8_method_39_code
def yX6_counter : MethodName := ⟨RX6, "counter", "()I"⟩
abbrev cX6_acts : ByteArray := prog_8_method_40_code
def yX6_acts : MethodName := ⟨RX6, "acts", "()I"⟩
abbrev cX6_byteOf : ByteArray := prog_8_method_41_code
def yX6_byteOf : MethodName := ⟨RX6, "byteOf", "(I)I"⟩
abbrev cX6_good : ByteArray := prog_8_method_42_code
def yX6_good : MethodName := ⟨RX6, "good", "(I)I"⟩
def RJ6 : String := "java/lang/Integer"
def TJ6 : u_T := fun k => match k with
  | _ => ("", "", "", false)
def tyJ6 : Nat → FieldType := fun k => match k with
  | _ => .int
abbrev wsJ60 : List Cond := u_ws RJ6 TJ6 0
theorem nmJ6 : ∀ a, a < 0 → ∀ b, b < 0 → a ≠ b → (TJ6 a).2.1 ≠ (TJ6 b).2.1 := by decide +kernel
theorem tyJ6_ok : ∀ k, k < 0 → parseFieldDescriptor (TJ6 k).2.2.1 = some (tyJ6 k) := by decide +kernel
abbrev cJ6_bitCount_0f7a4 : ByteArray := prog_9_method_49_code
def yJ6_bitCount_0f7a4 : MethodName := ⟨RJ6, "bitCount", "(I)I"⟩
def RJ9 : String := "java/lang/Math"
def TJ9 : u_T := fun k => match k with
  | _ => ("", "", "", false)
def tyJ9 : Nat → FieldType := fun k => match k with
  | _ => .int
abbrev wsJ90 : List Cond := u_ws RJ9 TJ9 0
theorem nmJ9 : ∀ a, a < 0 → ∀ b, b < 0 → a ≠ b → (TJ9 a).2.1 ≠ (TJ9 b).2.1 := by decide +kernel
theorem tyJ9_ok : ∀ k, k < 0 → parseFieldDescriptor (TJ9 k).2.2.1 = some (tyJ9 k) := by decide +kernel
abbrev cJ9_min_7cf53 : ByteArray := prog_10_method_69_code
def yJ9_min_7cf53 : MethodName := ⟨RJ9, "min", "(II)I"⟩
def RJ10 : String := "java/lang/System"
def TJ10 : u_T := fun k => match k with
  | _ => ("", "", "", false)
def tyJ10 : Nat → FieldType := fun k => match k with
  | _ => .int
abbrev wsJ100 : List Cond := u_ws RJ10 TJ10 0
theorem nmJ10 : ∀ a, a < 0 → ∀ b, b < 0 → a ≠ b → (TJ10 a).2.1 ≠ (TJ10 b).2.1 := by decide +kernel
theorem tyJ10_ok : ∀ k, k < 0 → parseFieldDescriptor (TJ10 k).2.2.1 = some (tyJ10 k) := by decide +kernel
def RL : String := "FlashBootLaw"
abbrev cL_cell : ByteArray := method_2_code
def yL_cell : MethodName := ⟨RL, "cell", "([II)I"⟩
abbrev cL_law : ByteArray := code
def yL_law : MethodName := ⟨RL, "law", "([I)Z"⟩
def wsX0_init : List Cond := .code yX0_init cX0_init 2 none :: ([.methodLink RX0 3 objectInit, .instanceMethod objectInit, .code objectInit ⟨#[0xb1]⟩ 1 none, .arrayClass .int, .fieldLink RX0 11 "FlashBoot$Flash" "bytes" "[I", .fieldLink RX0 15 "FlashBoot$Flash" "power" "Z", .fieldLink RX0 19 "FlashBoot$Flash" "actsDone" "I", .fieldLink RX0 23 "FlashBoot$Flash" "crashIsSet" "Z", .fieldLink RX0 26 "FlashBoot$Flash" "actsToCrash" "I", .fieldLink RX0 29 "FlashBoot$Flash" "crashMask" "I"] ++ wsX00)
def wsX0_at : List Cond := .code yX0_at cX0_at 2 (some .int) :: ([.fieldLink RX0 11 "FlashBoot$Flash" "bytes" "[I"] ++ wsX00)
def wsX0_setCrash : List Cond := .code yX0_setCrash cX0_setCrash 3 none :: ([.fieldLink RX0 23 "FlashBoot$Flash" "crashIsSet" "Z", .fieldLink RX0 26 "FlashBoot$Flash" "actsToCrash" "I", .fieldLink RX0 29 "FlashBoot$Flash" "crashMask" "I"] ++ wsX00)
def wsX0_tearNextAct : List Cond := .code yX0_tearNextAct cX0_tearNextAct 1 (some .boolean) :: ([.fieldLink RX0 19 "FlashBoot$Flash" "actsDone" "I", .fieldLink RX0 23 "FlashBoot$Flash" "crashIsSet" "Z", .fieldLink RX0 26 "FlashBoot$Flash" "actsToCrash" "I", .fieldLink RX0 15 "FlashBoot$Flash" "power" "Z"] ++ wsX00)
def wsX0_erase : List Cond := .code yX0_erase cX0_erase 4 none :: ([.fieldLink RX0 15 "FlashBoot$Flash" "power" "Z", .fieldLink RX0 29 "FlashBoot$Flash" "crashMask" "I", .fieldLink RX0 11 "FlashBoot$Flash" "bytes" "[I", .methodLink RX0 32 yX0_tearNextAct, .instanceMethod yX0_tearNextAct, .selects RX0 yX0_tearNextAct yX0_tearNextAct, .initialized RX0, .code yX0_tearNextAct cX0_tearNextAct 1 (some .boolean), .fieldLink RX0 19 "FlashBoot$Flash" "actsDone" "I", .fieldLink RX0 23 "FlashBoot$Flash" "crashIsSet" "Z", .fieldLink RX0 26 "FlashBoot$Flash" "actsToCrash" "I"] ++ wsX00)
def wsX0_program : List Cond := .code yX0_program cX0_program 4 none :: ([.fieldLink RX0 15 "FlashBoot$Flash" "power" "Z", .fieldLink RX0 29 "FlashBoot$Flash" "crashMask" "I", .fieldLink RX0 11 "FlashBoot$Flash" "bytes" "[I", .methodLink RX0 32 yX0_tearNextAct, .instanceMethod yX0_tearNextAct, .selects RX0 yX0_tearNextAct yX0_tearNextAct, .initialized RX0, .code yX0_tearNextAct cX0_tearNextAct 1 (some .boolean), .fieldLink RX0 19 "FlashBoot$Flash" "actsDone" "I", .fieldLink RX0 23 "FlashBoot$Flash" "crashIsSet" "Z", .fieldLink RX0 26 "FlashBoot$Flash" "actsToCrash" "I"] ++ wsX00)
def wsX0_programRow : List Cond := .code yX0_programRow cX0_programRow 5 none :: ([.methodLink RX0 36 yX0_program, .instanceMethod yX0_program, .selects RX0 yX0_program yX0_program, .initialized RX0, .code yX0_program cX0_program 4 none, .fieldLink RX0 15 "FlashBoot$Flash" "power" "Z", .fieldLink RX0 29 "FlashBoot$Flash" "crashMask" "I", .fieldLink RX0 11 "FlashBoot$Flash" "bytes" "[I", .methodLink RX0 32 yX0_tearNextAct, .instanceMethod yX0_tearNextAct, .selects RX0 yX0_tearNextAct yX0_tearNextAct, .code yX0_tearNextAct cX0_tearNextAct 1 (some .boolean), .fieldLink RX0 19 "FlashBoot$Flash" "actsDone" "I", .fieldLink RX0 23 "FlashBoot$Flash" "crashIsSet" "Z", .fieldLink RX0 26 "FlashBoot$Flash" "actsToCrash" "I"] ++ wsX00)
def wsX5_byteOfWord : List Cond := .code yX5_byteOfWord cX5_byteOfWord 2 (some .int) :: ([])
def wsX0_programWord : List Cond := .code yX0_programWord cX0_programWord 4 none :: ([.static yX5_byteOfWord, .initialized RX5, .code yX5_byteOfWord cX5_byteOfWord 2 (some .int), .methodLink RX0 36 yX0_program, .instanceMethod yX0_program, .selects RX0 yX0_program yX0_program, .initialized RX0, .code yX0_program cX0_program 4 none, .fieldLink RX0 15 "FlashBoot$Flash" "power" "Z", .fieldLink RX0 29 "FlashBoot$Flash" "crashMask" "I", .fieldLink RX0 11 "FlashBoot$Flash" "bytes" "[I", .methodLink RX0 32 yX0_tearNextAct, .instanceMethod yX0_tearNextAct, .selects RX0 yX0_tearNextAct yX0_tearNextAct, .code yX0_tearNextAct cX0_tearNextAct 1 (some .boolean), .fieldLink RX0 19 "FlashBoot$Flash" "actsDone" "I", .fieldLink RX0 23 "FlashBoot$Flash" "crashIsSet" "Z", .fieldLink RX0 26 "FlashBoot$Flash" "actsToCrash" "I"] ++ wsX00)
def wsX0_programLowestBit : List Cond := .code yX0_programLowestBit cX0_programLowestBit 3 none :: ([.methodLink RX0 44 yX0_at, .instanceMethod yX0_at, .selects RX0 yX0_at yX0_at, .initialized RX0, .code yX0_at cX0_at 2 (some .int), .fieldLink RX0 11 "FlashBoot$Flash" "bytes" "[I", .methodLink RX0 36 yX0_program, .instanceMethod yX0_program, .selects RX0 yX0_program yX0_program, .code yX0_program cX0_program 4 none, .fieldLink RX0 15 "FlashBoot$Flash" "power" "Z", .fieldLink RX0 29 "FlashBoot$Flash" "crashMask" "I", .methodLink RX0 32 yX0_tearNextAct, .instanceMethod yX0_tearNextAct, .selects RX0 yX0_tearNextAct yX0_tearNextAct, .code yX0_tearNextAct cX0_tearNextAct 1 (some .boolean), .fieldLink RX0 19 "FlashBoot$Flash" "actsDone" "I", .fieldLink RX0 23 "FlashBoot$Flash" "crashIsSet" "Z", .fieldLink RX0 26 "FlashBoot$Flash" "actsToCrash" "I"] ++ wsX00)
def wsX0_word : List Cond := .code yX0_word cX0_word 4 (some .int) :: ([.methodLink RX0 44 yX0_at, .instanceMethod yX0_at, .selects RX0 yX0_at yX0_at, .initialized RX0, .code yX0_at cX0_at 2 (some .int), .fieldLink RX0 11 "FlashBoot$Flash" "bytes" "[I"] ++ wsX00)
def wsX5_digestByte : List Cond := .code yX5_digestByte cX5_digestByte 3 (some .int) :: ([.constant RX5 293 (16777619)])
def wsX0_digestOf : List Cond := .code yX0_digestOf cX0_digestOf 5 (some .int) :: ([.methodLink RX0 44 yX0_at, .instanceMethod yX0_at, .selects RX0 yX0_at yX0_at, .initialized RX0, .code yX0_at cX0_at 2 (some .int), .fieldLink RX0 11 "FlashBoot$Flash" "bytes" "[I", .static yX5_digestByte, .initialized RX5, .code yX5_digestByte cX5_digestByte 3 (some .int), .constant RX5 293 (16777619)] ++ wsX00)
def wsX1_init : List Cond := .code yX1_init cX1_init 1 none :: ([.methodLink RX1 3 objectInit, .instanceMethod objectInit, .code objectInit ⟨#[0xb1]⟩ 1 none, .arrayClass .int, .fieldLink RX1 11 "FlashBoot$Manifest" "bytes" "[I"] ++ wsX10)
def wsX1_readTape : List Cond := .code yX1_readTape cX1_readTape 2 none :: ([.fieldLink RX1 11 "FlashBoot$Manifest" "bytes" "[I", .methodLink RX1 18 arraycopyName, .native arraycopyName, .static arraycopyName, .initialized "java/lang/System"] ++ wsX40 ++ wsX10)
def wsX1_readPage : List Cond := .code yX1_readPage cX1_readPage 3 none :: ([.fieldLink RX1 11 "FlashBoot$Manifest" "bytes" "[I", .methodLink RX1 24 yX0_at, .instanceMethod yX0_at, .selects RX0 yX0_at yX0_at, .initialized RX0, .code yX0_at cX0_at 2 (some .int), .fieldLink RX0 11 "FlashBoot$Flash" "bytes" "[I"] ++ wsX10 ++ wsX00)
def wsX1_standsIn : List Cond := .code yX1_standsIn cX1_standsIn 3 (some .boolean) :: ([.fieldLink RX1 11 "FlashBoot$Manifest" "bytes" "[I", .methodLink RX1 24 yX0_at, .instanceMethod yX0_at, .selects RX0 yX0_at yX0_at, .initialized RX0, .code yX0_at cX0_at 2 (some .int), .fieldLink RX0 11 "FlashBoot$Flash" "bytes" "[I"] ++ wsX10 ++ wsX00)
def wsX1_vendor : List Cond := .code yX1_vendor cX1_vendor 1 (some .int) :: ([.fieldLink RX1 11 "FlashBoot$Manifest" "bytes" "[I"] ++ wsX10)
def wsX1_sequence : List Cond := .code yX1_sequence cX1_sequence 1 (some .int) :: ([.fieldLink RX1 11 "FlashBoot$Manifest" "bytes" "[I"] ++ wsX10)
def wsX1_word : List Cond := .code yX1_word cX1_word 4 (some .int) :: ([.fieldLink RX1 11 "FlashBoot$Manifest" "bytes" "[I"] ++ wsX10)
def wsX1_baseDigest : List Cond := .code yX1_baseDigest cX1_baseDigest 1 (some .int) :: ([.methodLink RX1 30 yX1_word, .instanceMethod yX1_word, .selects RX1 yX1_word yX1_word, .initialized RX1, .code yX1_word cX1_word 4 (some .int), .fieldLink RX1 11 "FlashBoot$Manifest" "bytes" "[I"] ++ wsX10)
def wsX1_payloadLength : List Cond := .code yX1_payloadLength cX1_payloadLength 1 (some .int) :: ([.fieldLink RX1 11 "FlashBoot$Manifest" "bytes" "[I"] ++ wsX10)
def wsX1_payloadDigest : List Cond := .code yX1_payloadDigest cX1_payloadDigest 1 (some .int) :: ([.methodLink RX1 30 yX1_word, .instanceMethod yX1_word, .selects RX1 yX1_word yX1_word, .initialized RX1, .code yX1_word cX1_word 4 (some .int), .fieldLink RX1 11 "FlashBoot$Manifest" "bytes" "[I"] ++ wsX10)
def wsX1_imageLength : List Cond := .code yX1_imageLength cX1_imageLength 1 (some .int) :: ([.fieldLink RX1 11 "FlashBoot$Manifest" "bytes" "[I"] ++ wsX10)
def wsX1_imageDigest : List Cond := .code yX1_imageDigest cX1_imageDigest 1 (some .int) :: ([.methodLink RX1 30 yX1_word, .instanceMethod yX1_word, .selects RX1 yX1_word yX1_word, .initialized RX1, .code yX1_word cX1_word 4 (some .int), .fieldLink RX1 11 "FlashBoot$Manifest" "bytes" "[I"] ++ wsX10)
def wsX5_isSequence : List Cond := .code yX5_isSequence cX5_isSequence 1 (some .boolean) :: ([])
def wsX5_isLength : List Cond := .code yX5_isLength cX5_isLength 1 (some .boolean) :: ([])
def wsX1_isInRange : List Cond := .code yX1_isInRange cX1_isInRange 1 (some .boolean) :: ([.methodLink RX1 33 yX1_sequence, .instanceMethod yX1_sequence, .selects RX1 yX1_sequence yX1_sequence, .initialized RX1, .code yX1_sequence cX1_sequence 1 (some .int), .fieldLink RX1 11 "FlashBoot$Manifest" "bytes" "[I", .static yX5_isSequence, .initialized RX5, .code yX5_isSequence cX5_isSequence 1 (some .boolean), .methodLink RX1 41 yX1_payloadLength, .instanceMethod yX1_payloadLength, .selects RX1 yX1_payloadLength yX1_payloadLength, .code yX1_payloadLength cX1_payloadLength 1 (some .int), .static yX5_isLength, .code yX5_isLength cX5_isLength 1 (some .boolean), .methodLink RX1 47 yX1_imageLength, .instanceMethod yX1_imageLength, .selects RX1 yX1_imageLength yX1_imageLength, .code yX1_imageLength cX1_imageLength 1 (some .int)] ++ wsX10)
def wsX5_digest : List Cond := .code yX5_digest cX5_digest 5 (some .int) :: ([.methodLink RX5 290 yX5_digestByte, .static yX5_digestByte, .initialized RX5, .code yX5_digestByte cX5_digestByte 3 (some .int), .constant RX5 293 (16777619)])
def wsX1_isTagged : List Cond := .code yX1_isTagged cX1_isTagged 2 (some .boolean) :: ([.fieldLink RX1 11 "FlashBoot$Manifest" "bytes" "[I", .static yX5_digest, .initialized RX5, .code yX5_digest cX5_digest 5 (some .int), .methodLink RX5 290 yX5_digestByte, .static yX5_digestByte, .code yX5_digestByte cX5_digestByte 3 (some .int), .constant RX5 293 (16777619), .methodLink RX1 30 yX1_word, .instanceMethod yX1_word, .selects RX1 yX1_word yX1_word, .initialized RX1, .code yX1_word cX1_word 4 (some .int)] ++ wsX10)
def wsX2_init : List Cond := .code yX2_init cX2_init 1 none :: ([.methodLink RX2 3 objectInit, .instanceMethod objectInit, .code objectInit ⟨#[0xb1]⟩ 1 none, .arrayClass .int, .fieldLink RX2 9 "FlashBoot$Patch" "image" "[I", .fieldLink RX2 15 "FlashBoot$Patch" "made" "I"] ++ wsX20)
def wsX2_take : List Cond := .code yX2_take cX2_take 5 (some .boolean) :: ([.fieldLink RX2 15 "FlashBoot$Patch" "made" "I", .fieldLink RX2 9 "FlashBoot$Patch" "image" "[I", .methodLink RX2 19 yX0_at, .instanceMethod yX0_at, .selects RX0 yX0_at yX0_at, .initialized RX0, .code yX0_at cX0_at 2 (some .int), .fieldLink RX0 11 "FlashBoot$Flash" "bytes" "[I"] ++ wsX20 ++ wsX00)
def wsX2_takeBase : List Cond := .code yX2_takeBase cX2_takeBase 6 (some .boolean) :: ([.methodLink RX2 25 yX2_take, .instanceMethod yX2_take, .selects RX2 yX2_take yX2_take, .initialized RX2, .code yX2_take cX2_take 5 (some .boolean), .fieldLink RX2 15 "FlashBoot$Patch" "made" "I", .fieldLink RX2 9 "FlashBoot$Patch" "image" "[I", .methodLink RX2 19 yX0_at, .instanceMethod yX0_at, .selects RX0 yX0_at yX0_at, .initialized RX0, .code yX0_at cX0_at 2 (some .int), .fieldLink RX0 11 "FlashBoot$Flash" "bytes" "[I"] ++ wsX20 ++ wsX00)
def wsX2_unfold : List Cond := .code yX2_unfold cX2_unfold 9 (some .boolean) :: ([.fieldLink RX2 15 "FlashBoot$Patch" "made" "I", .methodLink RX2 19 yX0_at, .instanceMethod yX0_at, .selects RX0 yX0_at yX0_at, .initialized RX0, .code yX0_at cX0_at 2 (some .int), .fieldLink RX0 11 "FlashBoot$Flash" "bytes" "[I", .methodLink RX2 25 yX2_take, .instanceMethod yX2_take, .selects RX2 yX2_take yX2_take, .initialized RX2, .code yX2_take cX2_take 5 (some .boolean), .fieldLink RX2 9 "FlashBoot$Patch" "image" "[I", .methodLink RX2 29 yX2_takeBase, .instanceMethod yX2_takeBase, .selects RX2 yX2_takeBase yX2_takeBase, .code yX2_takeBase cX2_takeBase 6 (some .boolean)] ++ wsX20 ++ wsX00)
def wsX3_init : List Cond := .code yX3_init cX3_init 2 none :: ([.methodLink RX3 3 objectInit, .instanceMethod objectInit, .code objectInit ⟨#[0xb1]⟩ 1 none, .fieldLink RX3 9 "FlashBoot$Slot" "firstPage" "I", .fieldLink RX3 15 "FlashBoot$Slot" "start" "I", .fieldLink RX3 18 "FlashBoot$Slot" "header" "I"] ++ wsX30)
def wsX3_length : List Cond := .code yX3_length cX3_length 2 (some .int) :: ([.fieldLink RX3 18 "FlashBoot$Slot" "header" "I", .methodLink RX3 21 yX0_at, .instanceMethod yX0_at, .selects RX0 yX0_at yX0_at, .initialized RX0, .code yX0_at cX0_at 2 (some .int), .fieldLink RX0 11 "FlashBoot$Flash" "bytes" "[I"] ++ wsX30 ++ wsX00)
def wsX3_sequence : List Cond := .code yX3_sequence cX3_sequence 2 (some .int) :: ([.fieldLink RX3 18 "FlashBoot$Slot" "header" "I", .methodLink RX3 21 yX0_at, .instanceMethod yX0_at, .selects RX0 yX0_at yX0_at, .initialized RX0, .code yX0_at cX0_at 2 (some .int), .fieldLink RX0 11 "FlashBoot$Flash" "bytes" "[I"] ++ wsX30 ++ wsX00)
def wsX3_digest : List Cond := .code yX3_digest cX3_digest 2 (some .int) :: ([.fieldLink RX3 18 "FlashBoot$Slot" "header" "I", .methodLink RX3 27 yX0_word, .instanceMethod yX0_word, .selects RX0 yX0_word yX0_word, .initialized RX0, .code yX0_word cX0_word 4 (some .int), .methodLink RX0 44 yX0_at, .instanceMethod yX0_at, .selects RX0 yX0_at yX0_at, .code yX0_at cX0_at 2 (some .int), .fieldLink RX0 11 "FlashBoot$Flash" "bytes" "[I"] ++ wsX30 ++ wsX00)
def wsX3_isConfirmed : List Cond := .code yX3_isConfirmed cX3_isConfirmed 2 (some .boolean) :: ([.fieldLink RX3 18 "FlashBoot$Slot" "header" "I", .methodLink RX3 21 yX0_at, .instanceMethod yX0_at, .selects RX0 yX0_at yX0_at, .initialized RX0, .code yX0_at cX0_at 2 (some .int), .fieldLink RX0 11 "FlashBoot$Flash" "bytes" "[I"] ++ wsX30 ++ wsX00)
def wsX3_isOnTrial : List Cond := .code yX3_isOnTrial cX3_isOnTrial 2 (some .boolean) :: ([.fieldLink RX3 18 "FlashBoot$Slot" "header" "I", .methodLink RX3 30 yX3_isConfirmed, .instanceMethod yX3_isConfirmed, .selects RX3 yX3_isConfirmed yX3_isConfirmed, .initialized RX3, .code yX3_isConfirmed cX3_isConfirmed 2 (some .boolean), .methodLink RX3 21 yX0_at, .instanceMethod yX0_at, .selects RX0 yX0_at yX0_at, .initialized RX0, .code yX0_at cX0_at 2 (some .int), .fieldLink RX0 11 "FlashBoot$Flash" "bytes" "[I"] ++ wsX30 ++ wsX00)
def wsX3_isWhole : List Cond := .code yX3_isWhole cX3_isWhole 2 (some .boolean) :: ([.fieldLink RX3 18 "FlashBoot$Slot" "header" "I", .methodLink RX3 21 yX0_at, .instanceMethod yX0_at, .selects RX0 yX0_at yX0_at, .initialized RX0, .code yX0_at cX0_at 2 (some .int), .fieldLink RX0 11 "FlashBoot$Flash" "bytes" "[I"] ++ wsX30 ++ wsX00)
def wsX3_isGood_r1 : List Cond := [Cond.fieldLink RX3 15 "FlashBoot$Slot" "start" "I", Cond.methodLink RX3 34 yX3_isWhole, Cond.instanceMethod yX3_isWhole, Cond.selects RX3 yX3_isWhole yX3_isWhole, Cond.initialized RX3, Cond.code yX3_isWhole cX3_isWhole 2 (some .boolean), Cond.fieldLink RX3 18 "FlashBoot$Slot" "header" "I", Cond.methodLink RX3 21 yX0_at, Cond.instanceMethod yX0_at, Cond.selects RX0 yX0_at yX0_at, Cond.initialized RX0, Cond.code yX0_at cX0_at 2 (some .int), Cond.fieldLink RX0 11 "FlashBoot$Flash" "bytes" "[I", Cond.methodLink RX3 37 yX3_length, Cond.instanceMethod yX3_length, Cond.selects RX3 yX3_length yX3_length, Cond.code yX3_length cX3_length 2 (some .int), Cond.static yX5_isLength, Cond.initialized RX5, Cond.code yX5_isLength cX5_isLength 1 (some .boolean), Cond.methodLink RX3 45 yX3_sequence, Cond.instanceMethod yX3_sequence, Cond.selects RX3 yX3_sequence yX3_sequence, Cond.code yX3_sequence cX3_sequence 2 (some .int)]
def wsX3_isGood_r2 : List Cond := [Cond.methodLink RX3 48 yX0_digestOf, Cond.instanceMethod yX0_digestOf, Cond.selects RX0 yX0_digestOf yX0_digestOf, Cond.code yX0_digestOf cX0_digestOf 5 (some .int), Cond.methodLink RX0 44 yX0_at, Cond.static yX5_digestByte, Cond.code yX5_digestByte cX5_digestByte 3 (some .int), Cond.constant RX5 293 (16777619), Cond.methodLink RX3 52 yX3_digest, Cond.instanceMethod yX3_digest, Cond.selects RX3 yX3_digest yX3_digest, Cond.code yX3_digest cX3_digest 2 (some .int), Cond.methodLink RX3 27 yX0_word, Cond.instanceMethod yX0_word, Cond.selects RX0 yX0_word yX0_word, Cond.code yX0_word cX0_word 4 (some .int)]
def wsX3_isGood : List Cond := .code yX3_isGood cX3_isGood 3 (some .boolean) :: ((wsX3_isGood_r1 ++ wsX3_isGood_r2) ++ wsX30 ++ wsX00)
def wsX3_eraseHeader : List Cond := .code yX3_eraseHeader cX3_eraseHeader 2 none :: ([.fieldLink RX3 9 "FlashBoot$Slot" "firstPage" "I", .methodLink RX3 55 yX0_erase, .instanceMethod yX0_erase, .selects RX0 yX0_erase yX0_erase, .initialized RX0, .code yX0_erase cX0_erase 4 none, .fieldLink RX0 15 "FlashBoot$Flash" "power" "Z", .fieldLink RX0 29 "FlashBoot$Flash" "crashMask" "I", .fieldLink RX0 11 "FlashBoot$Flash" "bytes" "[I", .methodLink RX0 32 yX0_tearNextAct, .instanceMethod yX0_tearNextAct, .selects RX0 yX0_tearNextAct yX0_tearNextAct, .code yX0_tearNextAct cX0_tearNextAct 1 (some .boolean), .fieldLink RX0 19 "FlashBoot$Flash" "actsDone" "I", .fieldLink RX0 23 "FlashBoot$Flash" "crashIsSet" "Z", .fieldLink RX0 26 "FlashBoot$Flash" "actsToCrash" "I"] ++ wsX30 ++ wsX00)
def wsX3_eraseImage : List Cond := .code yX3_eraseImage cX3_eraseImage 3 none :: ([.fieldLink RX3 9 "FlashBoot$Slot" "firstPage" "I", .methodLink RX3 55 yX0_erase, .instanceMethod yX0_erase, .selects RX0 yX0_erase yX0_erase, .initialized RX0, .code yX0_erase cX0_erase 4 none, .fieldLink RX0 15 "FlashBoot$Flash" "power" "Z", .fieldLink RX0 29 "FlashBoot$Flash" "crashMask" "I", .fieldLink RX0 11 "FlashBoot$Flash" "bytes" "[I", .methodLink RX0 32 yX0_tearNextAct, .instanceMethod yX0_tearNextAct, .selects RX0 yX0_tearNextAct yX0_tearNextAct, .code yX0_tearNextAct cX0_tearNextAct 1 (some .boolean), .fieldLink RX0 19 "FlashBoot$Flash" "actsDone" "I", .fieldLink RX0 23 "FlashBoot$Flash" "crashIsSet" "Z", .fieldLink RX0 26 "FlashBoot$Flash" "actsToCrash" "I"] ++ wsX30 ++ wsX00)
def wsX3_programImage : List Cond := .code yX3_programImage cX3_programImage 4 none :: ([.fieldLink RX3 15 "FlashBoot$Slot" "start" "I", .methodLink RX3 59 yX0_programRow, .instanceMethod yX0_programRow, .selects RX0 yX0_programRow yX0_programRow, .initialized RX0, .code yX0_programRow cX0_programRow 5 none, .methodLink RX0 36 yX0_program, .instanceMethod yX0_program, .selects RX0 yX0_program yX0_program, .code yX0_program cX0_program 4 none, .fieldLink RX0 15 "FlashBoot$Flash" "power" "Z", .fieldLink RX0 29 "FlashBoot$Flash" "crashMask" "I", .fieldLink RX0 11 "FlashBoot$Flash" "bytes" "[I", .methodLink RX0 32 yX0_tearNextAct, .instanceMethod yX0_tearNextAct, .selects RX0 yX0_tearNextAct yX0_tearNextAct, .code yX0_tearNextAct cX0_tearNextAct 1 (some .boolean), .fieldLink RX0 19 "FlashBoot$Flash" "actsDone" "I", .fieldLink RX0 23 "FlashBoot$Flash" "crashIsSet" "Z", .fieldLink RX0 26 "FlashBoot$Flash" "actsToCrash" "I"] ++ wsX30 ++ wsX00)
def wsX3_programName : List Cond := .code yX3_programName cX3_programName 5 none :: ([.fieldLink RX3 18 "FlashBoot$Slot" "header" "I", .methodLink RX3 63 yX0_program, .instanceMethod yX0_program, .selects RX0 yX0_program yX0_program, .initialized RX0, .code yX0_program cX0_program 4 none, .fieldLink RX0 15 "FlashBoot$Flash" "power" "Z", .fieldLink RX0 29 "FlashBoot$Flash" "crashMask" "I", .fieldLink RX0 11 "FlashBoot$Flash" "bytes" "[I", .methodLink RX0 32 yX0_tearNextAct, .instanceMethod yX0_tearNextAct, .selects RX0 yX0_tearNextAct yX0_tearNextAct, .code yX0_tearNextAct cX0_tearNextAct 1 (some .boolean), .fieldLink RX0 19 "FlashBoot$Flash" "actsDone" "I", .fieldLink RX0 23 "FlashBoot$Flash" "crashIsSet" "Z", .fieldLink RX0 26 "FlashBoot$Flash" "actsToCrash" "I", .methodLink RX3 67 yX0_programWord, .instanceMethod yX0_programWord, .selects RX0 yX0_programWord yX0_programWord, .code yX0_programWord cX0_programWord 4 none, .static yX5_byteOfWord, .initialized RX5, .code yX5_byteOfWord cX5_byteOfWord 2 (some .int), .methodLink RX0 36 yX0_program] ++ wsX30 ++ wsX00)
def wsX3_programTrials : List Cond := .code yX3_programTrials cX3_programTrials 2 none :: ([.fieldLink RX3 18 "FlashBoot$Slot" "header" "I", .methodLink RX3 63 yX0_program, .instanceMethod yX0_program, .selects RX0 yX0_program yX0_program, .initialized RX0, .code yX0_program cX0_program 4 none, .fieldLink RX0 15 "FlashBoot$Flash" "power" "Z", .fieldLink RX0 29 "FlashBoot$Flash" "crashMask" "I", .fieldLink RX0 11 "FlashBoot$Flash" "bytes" "[I", .methodLink RX0 32 yX0_tearNextAct, .instanceMethod yX0_tearNextAct, .selects RX0 yX0_tearNextAct yX0_tearNextAct, .code yX0_tearNextAct cX0_tearNextAct 1 (some .boolean), .fieldLink RX0 19 "FlashBoot$Flash" "actsDone" "I", .fieldLink RX0 23 "FlashBoot$Flash" "crashIsSet" "Z", .fieldLink RX0 26 "FlashBoot$Flash" "actsToCrash" "I"] ++ wsX30 ++ wsX00)
def wsX3_useTrial : List Cond := .code yX3_useTrial cX3_useTrial 2 none :: ([.fieldLink RX3 18 "FlashBoot$Slot" "header" "I", .methodLink RX3 70 yX0_programLowestBit, .instanceMethod yX0_programLowestBit, .selects RX0 yX0_programLowestBit yX0_programLowestBit, .initialized RX0, .code yX0_programLowestBit cX0_programLowestBit 3 none, .methodLink RX0 44 yX0_at, .instanceMethod yX0_at, .selects RX0 yX0_at yX0_at, .code yX0_at cX0_at 2 (some .int), .fieldLink RX0 11 "FlashBoot$Flash" "bytes" "[I", .methodLink RX0 36 yX0_program, .instanceMethod yX0_program, .selects RX0 yX0_program yX0_program, .code yX0_program cX0_program 4 none, .fieldLink RX0 15 "FlashBoot$Flash" "power" "Z", .fieldLink RX0 29 "FlashBoot$Flash" "crashMask" "I", .methodLink RX0 32 yX0_tearNextAct, .instanceMethod yX0_tearNextAct, .selects RX0 yX0_tearNextAct yX0_tearNextAct, .code yX0_tearNextAct cX0_tearNextAct 1 (some .boolean), .fieldLink RX0 19 "FlashBoot$Flash" "actsDone" "I", .fieldLink RX0 23 "FlashBoot$Flash" "crashIsSet" "Z", .fieldLink RX0 26 "FlashBoot$Flash" "actsToCrash" "I"] ++ wsX30 ++ wsX00)
def wsX3_programConfirmed : List Cond := .code yX3_programConfirmed cX3_programConfirmed 2 none :: ([.fieldLink RX3 18 "FlashBoot$Slot" "header" "I", .methodLink RX3 63 yX0_program, .instanceMethod yX0_program, .selects RX0 yX0_program yX0_program, .initialized RX0, .code yX0_program cX0_program 4 none, .fieldLink RX0 15 "FlashBoot$Flash" "power" "Z", .fieldLink RX0 29 "FlashBoot$Flash" "crashMask" "I", .fieldLink RX0 11 "FlashBoot$Flash" "bytes" "[I", .methodLink RX0 32 yX0_tearNextAct, .instanceMethod yX0_tearNextAct, .selects RX0 yX0_tearNextAct yX0_tearNextAct, .code yX0_tearNextAct cX0_tearNextAct 1 (some .boolean), .fieldLink RX0 19 "FlashBoot$Flash" "actsDone" "I", .fieldLink RX0 23 "FlashBoot$Flash" "crashIsSet" "Z", .fieldLink RX0 26 "FlashBoot$Flash" "actsToCrash" "I"] ++ wsX30 ++ wsX00)
def wsX3_programWhole : List Cond := .code yX3_programWhole cX3_programWhole 2 none :: ([.fieldLink RX3 18 "FlashBoot$Slot" "header" "I", .methodLink RX3 63 yX0_program, .instanceMethod yX0_program, .selects RX0 yX0_program yX0_program, .initialized RX0, .code yX0_program cX0_program 4 none, .fieldLink RX0 15 "FlashBoot$Flash" "power" "Z", .fieldLink RX0 29 "FlashBoot$Flash" "crashMask" "I", .fieldLink RX0 11 "FlashBoot$Flash" "bytes" "[I", .methodLink RX0 32 yX0_tearNextAct, .instanceMethod yX0_tearNextAct, .selects RX0 yX0_tearNextAct yX0_tearNextAct, .code yX0_tearNextAct cX0_tearNextAct 1 (some .boolean), .fieldLink RX0 19 "FlashBoot$Flash" "actsDone" "I", .fieldLink RX0 23 "FlashBoot$Flash" "crashIsSet" "Z", .fieldLink RX0 26 "FlashBoot$Flash" "actsToCrash" "I"] ++ wsX30 ++ wsX00)
def wsX4_init : List Cond := .code yX4_init cX4_init 1 none :: ([.methodLink RX4 3 objectInit, .instanceMethod objectInit, .code objectInit ⟨#[0xb1]⟩ 1 none, .arrayClass .int, .fieldLink RX4 9 "FlashBoot$Tape" "bytes" "[I", .fieldLink RX4 15 "FlashBoot$Tape" "length" "I"] ++ wsX40)
def wsX4_add : List Cond := .code yX4_add cX4_add 5 (some .boolean) :: ([.fieldLink RX4 15 "FlashBoot$Tape" "length" "I", .fieldLink RX4 9 "FlashBoot$Tape" "bytes" "[I"] ++ wsX40)
def wsX5_rowOfWords : List Cond := .code yX5_rowOfWords cX5_rowOfWords 4 (some (.array .int)) :: ([.arrayClass .int, .methodLink RX5 294 yX5_byteOfWord, .static yX5_byteOfWord, .initialized RX5, .code yX5_byteOfWord cX5_byteOfWord 2 (some .int)])
def wsX5_init_r1 : List Cond := [Cond.methodLink RX5 3 objectInit, Cond.instanceMethod objectInit, Cond.code objectInit ⟨#[0xb1]⟩ 1 none, Cond.classLink RX5 9 RX0, Cond.instantiable RX0 6, Cond.initialized RX0, Cond.fieldLink RX5 12 "FlashBoot" "flash" "LFlashBoot$Flash;", Cond.classLink RX5 16 RX4, Cond.instantiable RX4 2, Cond.initialized RX4, Cond.fieldLink RX5 19 "FlashBoot" "tape" "LFlashBoot$Tape;", Cond.classLink RX5 23 RX3, Cond.instantiable RX3 3, Cond.initialized RX3, Cond.fieldLink RX5 28 "FlashBoot" "lower" "LFlashBoot$Slot;", Cond.fieldLink RX5 32 "FlashBoot" "upper" "LFlashBoot$Slot;", Cond.classLink RX5 35 RX1, Cond.instantiable RX1 1, Cond.initialized RX1, Cond.fieldLink RX5 38 "FlashBoot" "order" "LFlashBoot$Manifest;", Cond.classLink RX5 42 RX2, Cond.instantiable RX2 2, Cond.initialized RX2, Cond.fieldLink RX5 45 "FlashBoot" "patch" "LFlashBoot$Patch;"]
def wsX5_init_r2 : List Cond := [Cond.fieldLink RX5 49 "FlashBoot" "runs" "I", Cond.fieldLink RX5 57 "FlashBoot" "keyBytes" "[I", Cond.fieldLink RX5 61 "FlashBoot" "vendorByte" "I", Cond.methodLink RX5 11 yX0_init, Cond.instanceMethod yX0_init, Cond.code yX0_init cX0_init 2 none, Cond.methodLink RX0 3 objectInit, Cond.arrayClass .int, Cond.fieldLink RX0 11 "FlashBoot$Flash" "bytes" "[I", Cond.fieldLink RX0 15 "FlashBoot$Flash" "power" "Z", Cond.fieldLink RX0 19 "FlashBoot$Flash" "actsDone" "I", Cond.fieldLink RX0 23 "FlashBoot$Flash" "crashIsSet" "Z", Cond.fieldLink RX0 26 "FlashBoot$Flash" "actsToCrash" "I", Cond.fieldLink RX0 29 "FlashBoot$Flash" "crashMask" "I", Cond.instanceMethod yX4_init, Cond.code yX4_init cX4_init 1 none, Cond.methodLink RX4 3 objectInit, Cond.fieldLink RX4 9 "FlashBoot$Tape" "bytes" "[I", Cond.fieldLink RX4 15 "FlashBoot$Tape" "length" "I", Cond.methodLink RX5 25 yX3_init, Cond.instanceMethod yX3_init, Cond.code yX3_init cX3_init 2 none, Cond.methodLink RX3 3 objectInit, Cond.fieldLink RX3 9 "FlashBoot$Slot" "firstPage" "I"]
def wsX5_init_r3 : List Cond := [Cond.fieldLink RX3 15 "FlashBoot$Slot" "start" "I", Cond.fieldLink RX3 18 "FlashBoot$Slot" "header" "I", Cond.instanceMethod yX1_init, Cond.code yX1_init cX1_init 1 none, Cond.methodLink RX1 3 objectInit, Cond.fieldLink RX1 11 "FlashBoot$Manifest" "bytes" "[I", Cond.instanceMethod yX2_init, Cond.code yX2_init cX2_init 1 none, Cond.methodLink RX2 3 objectInit, Cond.fieldLink RX2 9 "FlashBoot$Patch" "image" "[I", Cond.fieldLink RX2 15 "FlashBoot$Patch" "made" "I", Cond.methodLink RX5 53 yX5_rowOfWords, Cond.static yX5_rowOfWords, Cond.initialized RX5, Cond.code yX5_rowOfWords cX5_rowOfWords 4 (some (.array .int)), Cond.methodLink RX5 294 yX5_byteOfWord, Cond.static yX5_byteOfWord, Cond.code yX5_byteOfWord cX5_byteOfWord 2 (some .int)]
def wsX5_init : List Cond := .code yX5_init cX5_init 4 none :: ((wsX5_init_r1 ++ (wsX5_init_r2 ++ wsX5_init_r3)) ++ wsX00 ++ wsX50 ++ wsX40 ++ wsX30 ++ wsX10 ++ wsX20)
def wsX5_type : List Cond := .code yX5_type cX5_type 4 (some .int) :: ([.fieldLink RX5 19 "FlashBoot" "tape" "LFlashBoot$Tape;", .methodLink RX5 64 yX4_add, .instanceMethod yX4_add, .selects RX4 yX4_add yX4_add, .initialized RX4, .code yX4_add cX4_add 5 (some .boolean), .fieldLink RX4 15 "FlashBoot$Tape" "length" "I", .fieldLink RX4 9 "FlashBoot$Tape" "bytes" "[I"] ++ wsX50 ++ wsX40)
def wsX5_unlessTorn : List Cond := .code yX5_unlessTorn cX5_unlessTorn 2 (some .int) :: ([.fieldLink RX5 12 "FlashBoot" "flash" "LFlashBoot$Flash;", .fieldLink RX5 49 "FlashBoot" "runs" "I"] ++ wsX50 ++ wsX00)
def wsX5_factory_r1 : List Cond := [Cond.fieldLink RX5 12 "FlashBoot" "flash" "LFlashBoot$Flash;", Cond.fieldLink RX5 19 "FlashBoot" "tape" "LFlashBoot$Tape;", Cond.fieldLink RX5 49 "FlashBoot" "runs" "I", Cond.fieldLink RX5 28 "FlashBoot" "lower" "LFlashBoot$Slot;", Cond.methodLink RX5 75 yX5_isSequence, Cond.static yX5_isSequence, Cond.initialized RX5, Cond.code yX5_isSequence cX5_isSequence 1 (some .boolean), Cond.methodLink RX5 79 yX3_eraseImage, Cond.instanceMethod yX3_eraseImage, Cond.selects RX3 yX3_eraseImage yX3_eraseImage, Cond.initialized RX3, Cond.code yX3_eraseImage cX3_eraseImage 3 none, Cond.fieldLink RX3 9 "FlashBoot$Slot" "firstPage" "I", Cond.methodLink RX3 55 yX0_erase, Cond.instanceMethod yX0_erase, Cond.selects RX0 yX0_erase yX0_erase, Cond.initialized RX0, Cond.code yX0_erase cX0_erase 4 none, Cond.fieldLink RX0 15 "FlashBoot$Flash" "power" "Z", Cond.fieldLink RX0 29 "FlashBoot$Flash" "crashMask" "I", Cond.fieldLink RX0 11 "FlashBoot$Flash" "bytes" "[I", Cond.methodLink RX0 32 yX0_tearNextAct, Cond.instanceMethod yX0_tearNextAct]
def wsX5_factory_r2 : List Cond := [Cond.selects RX0 yX0_tearNextAct yX0_tearNextAct, Cond.code yX0_tearNextAct cX0_tearNextAct 1 (some .boolean), Cond.fieldLink RX0 19 "FlashBoot$Flash" "actsDone" "I", Cond.fieldLink RX0 23 "FlashBoot$Flash" "crashIsSet" "Z", Cond.fieldLink RX0 26 "FlashBoot$Flash" "actsToCrash" "I", Cond.methodLink RX5 83 yX3_eraseHeader, Cond.instanceMethod yX3_eraseHeader, Cond.selects RX3 yX3_eraseHeader yX3_eraseHeader, Cond.code yX3_eraseHeader cX3_eraseHeader 2 none, Cond.methodLink RX5 86 yX0_erase, Cond.methodLink RX5 92 yX3_programImage, Cond.instanceMethod yX3_programImage, Cond.selects RX3 yX3_programImage yX3_programImage, Cond.code yX3_programImage cX3_programImage 4 none, Cond.fieldLink RX3 15 "FlashBoot$Slot" "start" "I", Cond.methodLink RX3 59 yX0_programRow, Cond.instanceMethod yX0_programRow, Cond.selects RX0 yX0_programRow yX0_programRow, Cond.code yX0_programRow cX0_programRow 5 none, Cond.methodLink RX0 36 yX0_program, Cond.instanceMethod yX0_program, Cond.selects RX0 yX0_program yX0_program, Cond.code yX0_program cX0_program 4 none, Cond.methodLink RX5 96 yX5_digest]
def wsX5_factory_r3 : List Cond := [Cond.static yX5_digest, Cond.code yX5_digest cX5_digest 5 (some .int), Cond.methodLink RX5 290 yX5_digestByte, Cond.static yX5_digestByte, Cond.code yX5_digestByte cX5_digestByte 3 (some .int), Cond.constant RX5 293 (16777619), Cond.methodLink RX5 100 yX3_programName, Cond.instanceMethod yX3_programName, Cond.selects RX3 yX3_programName yX3_programName, Cond.code yX3_programName cX3_programName 5 none, Cond.fieldLink RX3 18 "FlashBoot$Slot" "header" "I", Cond.methodLink RX3 63 yX0_program, Cond.methodLink RX3 67 yX0_programWord, Cond.instanceMethod yX0_programWord, Cond.selects RX0 yX0_programWord yX0_programWord, Cond.code yX0_programWord cX0_programWord 4 none, Cond.static yX5_byteOfWord, Cond.code yX5_byteOfWord cX5_byteOfWord 2 (some .int), Cond.methodLink RX5 104 yX3_programConfirmed, Cond.instanceMethod yX3_programConfirmed, Cond.selects RX3 yX3_programConfirmed yX3_programConfirmed, Cond.code yX3_programConfirmed cX3_programConfirmed 2 none, Cond.methodLink RX5 107 yX3_programWhole, Cond.instanceMethod yX3_programWhole]
def wsX5_factory_r4 : List Cond := [Cond.selects RX3 yX3_programWhole yX3_programWhole, Cond.code yX3_programWhole cX3_programWhole 2 none, Cond.methodLink RX5 110 yX5_unlessTorn, Cond.instanceMethod yX5_unlessTorn, Cond.selects RX5 yX5_unlessTorn yX5_unlessTorn, Cond.code yX5_unlessTorn cX5_unlessTorn 2 (some .int)]
def wsX5_factory : List Cond := .code yX5_factory cX5_factory 2 (some .int) :: ((wsX5_factory_r1 ++ (wsX5_factory_r2 ++ (wsX5_factory_r3 ++ wsX5_factory_r4))) ++ wsX50 ++ wsX00 ++ wsX40 ++ wsX30)
def wsX5_isOurs : List Cond := .code yX5_isOurs cX5_isOurs 1 (some .boolean) :: ([.fieldLink RX5 38 "FlashBoot" "order" "LFlashBoot$Manifest;", .fieldLink RX5 57 "FlashBoot" "keyBytes" "[I", .fieldLink RX5 61 "FlashBoot" "vendorByte" "I", .methodLink RX5 216 yX1_isTagged, .instanceMethod yX1_isTagged, .selects RX1 yX1_isTagged yX1_isTagged, .initialized RX1, .code yX1_isTagged cX1_isTagged 2 (some .boolean), .fieldLink RX1 11 "FlashBoot$Manifest" "bytes" "[I", .static yX5_digest, .initialized RX5, .code yX5_digest cX5_digest 5 (some .int), .methodLink RX5 290 yX5_digestByte, .static yX5_digestByte, .code yX5_digestByte cX5_digestByte 3 (some .int), .constant RX5 293 (16777619), .methodLink RX1 30 yX1_word, .instanceMethod yX1_word, .selects RX1 yX1_word yX1_word, .code yX1_word cX1_word 4 (some .int), .methodLink RX5 220 yX1_vendor, .instanceMethod yX1_vendor, .selects RX1 yX1_vendor yX1_vendor, .code yX1_vendor cX1_vendor 1 (some .int)] ++ wsX50 ++ wsX10)
def wsJ6_bitCount_0f7a4 : List Cond := .code yJ6_bitCount_0f7a4 cJ6_bitCount_0f7a4 1 (some .int) :: ([.constant RJ6 265 (1431655765), .constant RJ6 266 (858993459), .constant RJ6 267 (252645135)])
def wsX5_counter : List Cond := .code yX5_counter cX5_counter 3 (some .int) :: ([.fieldLink RX5 12 "FlashBoot" "flash" "LFlashBoot$Flash;", .methodLink RX5 189 yX0_at, .instanceMethod yX0_at, .selects RX0 yX0_at yX0_at, .initialized RX0, .code yX0_at cX0_at 2 (some .int), .fieldLink RX0 11 "FlashBoot$Flash" "bytes" "[I", .methodLink RX5 192 yJ6_bitCount_0f7a4, .static yJ6_bitCount_0f7a4, .initialized RJ6, .code yJ6_bitCount_0f7a4 cJ6_bitCount_0f7a4 1 (some .int), .constant RJ6 265 (1431655765), .constant RJ6 266 (858993459), .constant RJ6 267 (252645135)] ++ wsX50 ++ wsX00)
def wsX5_slot : List Cond := .code yX5_slot cX5_slot 2 (some (.object "FlashBoot$Slot")) :: ([.fieldLink RX5 28 "FlashBoot" "lower" "LFlashBoot$Slot;", .fieldLink RX5 32 "FlashBoot" "upper" "LFlashBoot$Slot;"] ++ wsX50)
def wsX5_isOld_r1 : List Cond := [Cond.fieldLink RX5 49 "FlashBoot" "runs" "I", Cond.fieldLink RX5 12 "FlashBoot" "flash" "LFlashBoot$Flash;", Cond.methodLink RX5 223 yX5_counter, Cond.instanceMethod yX5_counter, Cond.selects RX5 yX5_counter yX5_counter, Cond.initialized RX5, Cond.code yX5_counter cX5_counter 3 (some .int), Cond.methodLink RX5 189 yX0_at, Cond.instanceMethod yX0_at, Cond.selects RX0 yX0_at yX0_at, Cond.initialized RX0, Cond.code yX0_at cX0_at 2 (some .int), Cond.fieldLink RX0 11 "FlashBoot$Flash" "bytes" "[I", Cond.methodLink RX5 192 yJ6_bitCount_0f7a4, Cond.static yJ6_bitCount_0f7a4, Cond.initialized RJ6, Cond.code yJ6_bitCount_0f7a4 cJ6_bitCount_0f7a4 1 (some .int), Cond.constant RJ6 265 (1431655765), Cond.constant RJ6 266 (858993459), Cond.constant RJ6 267 (252645135), Cond.methodLink RX5 155 yX5_slot, Cond.instanceMethod yX5_slot, Cond.selects RX5 yX5_slot yX5_slot, Cond.code yX5_slot cX5_slot 2 (some (.object "FlashBoot$Slot"))]
def wsX5_isOld_r2 : List Cond := [Cond.fieldLink RX5 28 "FlashBoot" "lower" "LFlashBoot$Slot;", Cond.fieldLink RX5 32 "FlashBoot" "upper" "LFlashBoot$Slot;", Cond.methodLink RX5 180 yX3_sequence, Cond.instanceMethod yX3_sequence, Cond.selects RX3 yX3_sequence yX3_sequence, Cond.initialized RX3, Cond.code yX3_sequence cX3_sequence 2 (some .int), Cond.fieldLink RX3 18 "FlashBoot$Slot" "header" "I", Cond.methodLink RX3 21 yX0_at]
def wsX5_isOld : List Cond := .code yX5_isOld cX5_isOld 2 (some .boolean) :: ((wsX5_isOld_r1 ++ wsX5_isOld_r2) ++ wsX50 ++ wsX00 ++ wsX30)
def wsX5_judgeTape_r1 : List Cond := [Cond.fieldLink RX5 19 "FlashBoot" "tape" "LFlashBoot$Tape;", Cond.fieldLink RX5 38 "FlashBoot" "order" "LFlashBoot$Manifest;", Cond.fieldLink RX5 12 "FlashBoot" "flash" "LFlashBoot$Flash;", Cond.methodLink RX5 203 yX1_readTape, Cond.instanceMethod yX1_readTape, Cond.selects RX1 yX1_readTape yX1_readTape, Cond.initialized RX1, Cond.code yX1_readTape cX1_readTape 2 none, Cond.fieldLink RX1 11 "FlashBoot$Manifest" "bytes" "[I", Cond.methodLink RX1 18 arraycopyName, Cond.native arraycopyName, Cond.static arraycopyName, Cond.initialized "java/lang/System", Cond.methodLink RX5 207 yX1_isInRange, Cond.instanceMethod yX1_isInRange, Cond.selects RX1 yX1_isInRange yX1_isInRange, Cond.code yX1_isInRange cX1_isInRange 1 (some .boolean), Cond.methodLink RX1 33 yX1_sequence, Cond.instanceMethod yX1_sequence, Cond.selects RX1 yX1_sequence yX1_sequence, Cond.code yX1_sequence cX1_sequence 1 (some .int), Cond.static yX5_isSequence, Cond.initialized RX5, Cond.code yX5_isSequence cX5_isSequence 1 (some .boolean)]
def wsX5_judgeTape_r2 : List Cond := [Cond.methodLink RX1 41 yX1_payloadLength, Cond.instanceMethod yX1_payloadLength, Cond.selects RX1 yX1_payloadLength yX1_payloadLength, Cond.code yX1_payloadLength cX1_payloadLength 1 (some .int), Cond.static yX5_isLength, Cond.code yX5_isLength cX5_isLength 1 (some .boolean), Cond.methodLink RX1 47 yX1_imageLength, Cond.instanceMethod yX1_imageLength, Cond.selects RX1 yX1_imageLength yX1_imageLength, Cond.code yX1_imageLength cX1_imageLength 1 (some .int), Cond.methodLink RX5 210 yX5_isOurs, Cond.instanceMethod yX5_isOurs, Cond.selects RX5 yX5_isOurs yX5_isOurs, Cond.code yX5_isOurs cX5_isOurs 1 (some .boolean), Cond.fieldLink RX5 57 "FlashBoot" "keyBytes" "[I", Cond.fieldLink RX5 61 "FlashBoot" "vendorByte" "I", Cond.methodLink RX5 216 yX1_isTagged, Cond.instanceMethod yX1_isTagged, Cond.selects RX1 yX1_isTagged yX1_isTagged, Cond.code yX1_isTagged cX1_isTagged 2 (some .boolean), Cond.static yX5_digest, Cond.code yX5_digest cX5_digest 5 (some .int), Cond.methodLink RX5 290 yX5_digestByte, Cond.static yX5_digestByte]
def wsX5_judgeTape_r3 : List Cond := [Cond.code yX5_digestByte cX5_digestByte 3 (some .int), Cond.constant RX5 293 (16777619), Cond.methodLink RX1 30 yX1_word, Cond.instanceMethod yX1_word, Cond.selects RX1 yX1_word yX1_word, Cond.code yX1_word cX1_word 4 (some .int), Cond.methodLink RX5 220 yX1_vendor, Cond.instanceMethod yX1_vendor, Cond.selects RX1 yX1_vendor yX1_vendor, Cond.code yX1_vendor cX1_vendor 1 (some .int), Cond.methodLink RX5 146 yX1_sequence, Cond.methodLink RX5 149 yX5_isOld, Cond.instanceMethod yX5_isOld, Cond.selects RX5 yX5_isOld yX5_isOld, Cond.code yX5_isOld cX5_isOld 2 (some .boolean), Cond.fieldLink RX5 49 "FlashBoot" "runs" "I", Cond.methodLink RX5 223 yX5_counter, Cond.instanceMethod yX5_counter, Cond.selects RX5 yX5_counter yX5_counter, Cond.code yX5_counter cX5_counter 3 (some .int), Cond.methodLink RX5 189 yX0_at, Cond.instanceMethod yX0_at, Cond.selects RX0 yX0_at yX0_at, Cond.initialized RX0]
def wsX5_judgeTape_r4 : List Cond := [Cond.code yX0_at cX0_at 2 (some .int), Cond.fieldLink RX0 11 "FlashBoot$Flash" "bytes" "[I", Cond.methodLink RX5 192 yJ6_bitCount_0f7a4, Cond.static yJ6_bitCount_0f7a4, Cond.initialized RJ6, Cond.code yJ6_bitCount_0f7a4 cJ6_bitCount_0f7a4 1 (some .int), Cond.constant RJ6 265 (1431655765), Cond.constant RJ6 266 (858993459), Cond.constant RJ6 267 (252645135), Cond.methodLink RX5 155 yX5_slot, Cond.instanceMethod yX5_slot, Cond.selects RX5 yX5_slot yX5_slot, Cond.code yX5_slot cX5_slot 2 (some (.object "FlashBoot$Slot")), Cond.fieldLink RX5 28 "FlashBoot" "lower" "LFlashBoot$Slot;", Cond.fieldLink RX5 32 "FlashBoot" "upper" "LFlashBoot$Slot;", Cond.methodLink RX5 180 yX3_sequence, Cond.instanceMethod yX3_sequence, Cond.selects RX3 yX3_sequence yX3_sequence, Cond.initialized RX3, Cond.code yX3_sequence cX3_sequence 2 (some .int), Cond.fieldLink RX3 18 "FlashBoot$Slot" "header" "I", Cond.methodLink RX3 21 yX0_at, Cond.methodLink RX5 213 yX1_standsIn, Cond.instanceMethod yX1_standsIn]
def wsX5_judgeTape_r5 : List Cond := [Cond.selects RX1 yX1_standsIn yX1_standsIn, Cond.code yX1_standsIn cX1_standsIn 3 (some .boolean), Cond.methodLink RX1 24 yX0_at]
def wsX5_judgeTape : List Cond := .code yX5_judgeTape cX5_judgeTape 1 (some .int) :: ((wsX5_judgeTape_r1 ++ (wsX5_judgeTape_r2 ++ (wsX5_judgeTape_r3 ++ (wsX5_judgeTape_r4 ++ wsX5_judgeTape_r5)))) ++ wsX50 ++ wsX40 ++ wsX10 ++ wsX00 ++ wsX30)
def wsX5_stageAnew_r1 : List Cond := [Cond.fieldLink RX5 12 "FlashBoot" "flash" "LFlashBoot$Flash;", Cond.fieldLink RX5 38 "FlashBoot" "order" "LFlashBoot$Manifest;", Cond.methodLink RX5 86 yX0_erase, Cond.instanceMethod yX0_erase, Cond.selects RX0 yX0_erase yX0_erase, Cond.initialized RX0, Cond.code yX0_erase cX0_erase 4 none, Cond.fieldLink RX0 15 "FlashBoot$Flash" "power" "Z", Cond.fieldLink RX0 29 "FlashBoot$Flash" "crashMask" "I", Cond.fieldLink RX0 11 "FlashBoot$Flash" "bytes" "[I", Cond.methodLink RX0 32 yX0_tearNextAct, Cond.instanceMethod yX0_tearNextAct, Cond.selects RX0 yX0_tearNextAct yX0_tearNextAct, Cond.code yX0_tearNextAct cX0_tearNextAct 1 (some .boolean), Cond.fieldLink RX0 19 "FlashBoot$Flash" "actsDone" "I", Cond.fieldLink RX0 23 "FlashBoot$Flash" "crashIsSet" "Z", Cond.fieldLink RX0 26 "FlashBoot$Flash" "actsToCrash" "I", Cond.methodLink RX5 138 yX0_programRow, Cond.instanceMethod yX0_programRow, Cond.selects RX0 yX0_programRow yX0_programRow, Cond.code yX0_programRow cX0_programRow 5 none, Cond.methodLink RX0 36 yX0_program, Cond.instanceMethod yX0_program, Cond.selects RX0 yX0_program yX0_program]
def wsX5_stageAnew_r2 : List Cond := [Cond.code yX0_program cX0_program 4 none]
def wsX5_stageAnew : List Cond := .code yX5_stageAnew cX5_stageAnew 2 none :: ((wsX5_stageAnew_r1 ++ wsX5_stageAnew_r2) ++ wsX50 ++ wsX10 ++ wsX00)
def wsX5_manifest_r1 : List Cond := [Cond.fieldLink RX5 12 "FlashBoot" "flash" "LFlashBoot$Flash;", Cond.fieldLink RX5 19 "FlashBoot" "tape" "LFlashBoot$Tape;", Cond.methodLink RX5 114 yX5_judgeTape, Cond.instanceMethod yX5_judgeTape, Cond.selects RX5 yX5_judgeTape yX5_judgeTape, Cond.initialized RX5, Cond.code yX5_judgeTape cX5_judgeTape 1 (some .int), Cond.fieldLink RX5 38 "FlashBoot" "order" "LFlashBoot$Manifest;", Cond.methodLink RX5 203 yX1_readTape, Cond.instanceMethod yX1_readTape, Cond.selects RX1 yX1_readTape yX1_readTape, Cond.initialized RX1, Cond.code yX1_readTape cX1_readTape 2 none, Cond.fieldLink RX1 11 "FlashBoot$Manifest" "bytes" "[I", Cond.methodLink RX1 18 arraycopyName, Cond.native arraycopyName, Cond.static arraycopyName, Cond.initialized "java/lang/System", Cond.methodLink RX5 207 yX1_isInRange, Cond.instanceMethod yX1_isInRange, Cond.selects RX1 yX1_isInRange yX1_isInRange, Cond.code yX1_isInRange cX1_isInRange 1 (some .boolean), Cond.methodLink RX1 33 yX1_sequence, Cond.instanceMethod yX1_sequence]
def wsX5_manifest_r2 : List Cond := [Cond.selects RX1 yX1_sequence yX1_sequence, Cond.code yX1_sequence cX1_sequence 1 (some .int), Cond.static yX5_isSequence, Cond.code yX5_isSequence cX5_isSequence 1 (some .boolean), Cond.methodLink RX1 41 yX1_payloadLength, Cond.instanceMethod yX1_payloadLength, Cond.selects RX1 yX1_payloadLength yX1_payloadLength, Cond.code yX1_payloadLength cX1_payloadLength 1 (some .int), Cond.static yX5_isLength, Cond.code yX5_isLength cX5_isLength 1 (some .boolean), Cond.methodLink RX1 47 yX1_imageLength, Cond.instanceMethod yX1_imageLength, Cond.selects RX1 yX1_imageLength yX1_imageLength, Cond.code yX1_imageLength cX1_imageLength 1 (some .int), Cond.methodLink RX5 210 yX5_isOurs, Cond.instanceMethod yX5_isOurs, Cond.selects RX5 yX5_isOurs yX5_isOurs, Cond.code yX5_isOurs cX5_isOurs 1 (some .boolean), Cond.fieldLink RX5 57 "FlashBoot" "keyBytes" "[I", Cond.fieldLink RX5 61 "FlashBoot" "vendorByte" "I", Cond.methodLink RX5 216 yX1_isTagged, Cond.instanceMethod yX1_isTagged, Cond.selects RX1 yX1_isTagged yX1_isTagged, Cond.code yX1_isTagged cX1_isTagged 2 (some .boolean)]
def wsX5_manifest_r3 : List Cond := [Cond.static yX5_digest, Cond.code yX5_digest cX5_digest 5 (some .int), Cond.methodLink RX5 290 yX5_digestByte, Cond.static yX5_digestByte, Cond.code yX5_digestByte cX5_digestByte 3 (some .int), Cond.constant RX5 293 (16777619), Cond.methodLink RX1 30 yX1_word, Cond.instanceMethod yX1_word, Cond.selects RX1 yX1_word yX1_word, Cond.code yX1_word cX1_word 4 (some .int), Cond.methodLink RX5 220 yX1_vendor, Cond.instanceMethod yX1_vendor, Cond.selects RX1 yX1_vendor yX1_vendor, Cond.code yX1_vendor cX1_vendor 1 (some .int), Cond.methodLink RX5 146 yX1_sequence, Cond.methodLink RX5 149 yX5_isOld, Cond.instanceMethod yX5_isOld, Cond.selects RX5 yX5_isOld yX5_isOld, Cond.code yX5_isOld cX5_isOld 2 (some .boolean), Cond.fieldLink RX5 49 "FlashBoot" "runs" "I", Cond.methodLink RX5 223 yX5_counter, Cond.instanceMethod yX5_counter, Cond.selects RX5 yX5_counter yX5_counter, Cond.code yX5_counter cX5_counter 3 (some .int)]
def wsX5_manifest_r4 : List Cond := [Cond.methodLink RX5 189 yX0_at, Cond.instanceMethod yX0_at, Cond.selects RX0 yX0_at yX0_at, Cond.initialized RX0, Cond.code yX0_at cX0_at 2 (some .int), Cond.fieldLink RX0 11 "FlashBoot$Flash" "bytes" "[I", Cond.methodLink RX5 192 yJ6_bitCount_0f7a4, Cond.static yJ6_bitCount_0f7a4, Cond.initialized RJ6, Cond.code yJ6_bitCount_0f7a4 cJ6_bitCount_0f7a4 1 (some .int), Cond.constant RJ6 265 (1431655765), Cond.constant RJ6 266 (858993459), Cond.constant RJ6 267 (252645135), Cond.methodLink RX5 155 yX5_slot, Cond.instanceMethod yX5_slot, Cond.selects RX5 yX5_slot yX5_slot, Cond.code yX5_slot cX5_slot 2 (some (.object "FlashBoot$Slot")), Cond.fieldLink RX5 28 "FlashBoot" "lower" "LFlashBoot$Slot;", Cond.fieldLink RX5 32 "FlashBoot" "upper" "LFlashBoot$Slot;", Cond.methodLink RX5 180 yX3_sequence, Cond.instanceMethod yX3_sequence, Cond.selects RX3 yX3_sequence yX3_sequence, Cond.initialized RX3, Cond.code yX3_sequence cX3_sequence 2 (some .int)]
def wsX5_manifest_r5 : List Cond := [Cond.fieldLink RX3 18 "FlashBoot$Slot" "header" "I", Cond.methodLink RX3 21 yX0_at, Cond.methodLink RX5 213 yX1_standsIn, Cond.instanceMethod yX1_standsIn, Cond.selects RX1 yX1_standsIn yX1_standsIn, Cond.code yX1_standsIn cX1_standsIn 3 (some .boolean), Cond.methodLink RX1 24 yX0_at, Cond.methodLink RX5 118 yX5_stageAnew, Cond.instanceMethod yX5_stageAnew, Cond.selects RX5 yX5_stageAnew yX5_stageAnew, Cond.code yX5_stageAnew cX5_stageAnew 2 none, Cond.methodLink RX5 86 yX0_erase, Cond.instanceMethod yX0_erase, Cond.selects RX0 yX0_erase yX0_erase, Cond.code yX0_erase cX0_erase 4 none, Cond.fieldLink RX0 15 "FlashBoot$Flash" "power" "Z", Cond.fieldLink RX0 29 "FlashBoot$Flash" "crashMask" "I", Cond.methodLink RX0 32 yX0_tearNextAct, Cond.instanceMethod yX0_tearNextAct, Cond.selects RX0 yX0_tearNextAct yX0_tearNextAct, Cond.code yX0_tearNextAct cX0_tearNextAct 1 (some .boolean), Cond.fieldLink RX0 19 "FlashBoot$Flash" "actsDone" "I", Cond.fieldLink RX0 23 "FlashBoot$Flash" "crashIsSet" "Z", Cond.fieldLink RX0 26 "FlashBoot$Flash" "actsToCrash" "I"]
def wsX5_manifest_r6 : List Cond := [Cond.methodLink RX5 138 yX0_programRow, Cond.instanceMethod yX0_programRow, Cond.selects RX0 yX0_programRow yX0_programRow, Cond.code yX0_programRow cX0_programRow 5 none, Cond.methodLink RX0 36 yX0_program, Cond.instanceMethod yX0_program, Cond.selects RX0 yX0_program yX0_program, Cond.code yX0_program cX0_program 4 none, Cond.methodLink RX5 110 yX5_unlessTorn, Cond.instanceMethod yX5_unlessTorn, Cond.selects RX5 yX5_unlessTorn yX5_unlessTorn, Cond.code yX5_unlessTorn cX5_unlessTorn 2 (some .int)]
def wsX5_manifest : List Cond := .code yX5_manifest cX5_manifest 2 (some .int) :: ((wsX5_manifest_r1 ++ (wsX5_manifest_r2 ++ (wsX5_manifest_r3 ++ (wsX5_manifest_r4 ++ (wsX5_manifest_r5 ++ wsX5_manifest_r6))))) ++ wsX50 ++ wsX00 ++ wsX40 ++ wsX10 ++ wsX30)
def wsX5_readStagedManifest_r1 : List Cond := [Cond.fieldLink RX5 38 "FlashBoot" "order" "LFlashBoot$Manifest;", Cond.fieldLink RX5 12 "FlashBoot" "flash" "LFlashBoot$Flash;", Cond.methodLink RX5 227 yX1_readPage, Cond.instanceMethod yX1_readPage, Cond.selects RX1 yX1_readPage yX1_readPage, Cond.initialized RX1, Cond.code yX1_readPage cX1_readPage 3 none, Cond.fieldLink RX1 11 "FlashBoot$Manifest" "bytes" "[I", Cond.methodLink RX1 24 yX0_at, Cond.instanceMethod yX0_at, Cond.selects RX0 yX0_at yX0_at, Cond.initialized RX0, Cond.code yX0_at cX0_at 2 (some .int), Cond.fieldLink RX0 11 "FlashBoot$Flash" "bytes" "[I", Cond.methodLink RX5 207 yX1_isInRange, Cond.instanceMethod yX1_isInRange, Cond.selects RX1 yX1_isInRange yX1_isInRange, Cond.code yX1_isInRange cX1_isInRange 1 (some .boolean), Cond.methodLink RX1 33 yX1_sequence, Cond.instanceMethod yX1_sequence, Cond.selects RX1 yX1_sequence yX1_sequence, Cond.code yX1_sequence cX1_sequence 1 (some .int), Cond.static yX5_isSequence, Cond.initialized RX5]
def wsX5_readStagedManifest_r2 : List Cond := [Cond.code yX5_isSequence cX5_isSequence 1 (some .boolean), Cond.methodLink RX1 41 yX1_payloadLength, Cond.instanceMethod yX1_payloadLength, Cond.selects RX1 yX1_payloadLength yX1_payloadLength, Cond.code yX1_payloadLength cX1_payloadLength 1 (some .int), Cond.static yX5_isLength, Cond.code yX5_isLength cX5_isLength 1 (some .boolean), Cond.methodLink RX1 47 yX1_imageLength, Cond.instanceMethod yX1_imageLength, Cond.selects RX1 yX1_imageLength yX1_imageLength, Cond.code yX1_imageLength cX1_imageLength 1 (some .int), Cond.methodLink RX5 210 yX5_isOurs, Cond.instanceMethod yX5_isOurs, Cond.selects RX5 yX5_isOurs yX5_isOurs, Cond.code yX5_isOurs cX5_isOurs 1 (some .boolean), Cond.fieldLink RX5 57 "FlashBoot" "keyBytes" "[I", Cond.fieldLink RX5 61 "FlashBoot" "vendorByte" "I", Cond.methodLink RX5 216 yX1_isTagged, Cond.instanceMethod yX1_isTagged, Cond.selects RX1 yX1_isTagged yX1_isTagged, Cond.code yX1_isTagged cX1_isTagged 2 (some .boolean), Cond.static yX5_digest, Cond.code yX5_digest cX5_digest 5 (some .int), Cond.methodLink RX5 290 yX5_digestByte]
def wsX5_readStagedManifest_r3 : List Cond := [Cond.static yX5_digestByte, Cond.code yX5_digestByte cX5_digestByte 3 (some .int), Cond.constant RX5 293 (16777619), Cond.methodLink RX1 30 yX1_word, Cond.instanceMethod yX1_word, Cond.selects RX1 yX1_word yX1_word, Cond.code yX1_word cX1_word 4 (some .int), Cond.methodLink RX5 220 yX1_vendor, Cond.instanceMethod yX1_vendor, Cond.selects RX1 yX1_vendor yX1_vendor, Cond.code yX1_vendor cX1_vendor 1 (some .int)]
def wsX5_readStagedManifest : List Cond := .code yX5_readStagedManifest cX5_readStagedManifest 1 (some .boolean) :: ((wsX5_readStagedManifest_r1 ++ (wsX5_readStagedManifest_r2 ++ wsX5_readStagedManifest_r3)) ++ wsX50 ++ wsX10 ++ wsX00)
def wsX5_blocksOf : List Cond := .code yX5_blocksOf cX5_blocksOf 1 (some .int) :: ([])
def wsX5_isBlockOf : List Cond := .code yX5_isBlockOf cX5_isBlockOf 2 (some .boolean) :: ([.methodLink RX5 230 yX5_blocksOf, .static yX5_blocksOf, .initialized RX5, .code yX5_blocksOf cX5_blocksOf 1 (some .int)])
def wsX5_blockLength : List Cond := .code yX5_blockLength cX5_blockLength 2 (some .int) :: ([.fieldLink RX5 38 "FlashBoot" "order" "LFlashBoot$Manifest;", .methodLink RX5 233 Lib.Math.min.name, .static Lib.Math.min.name, .initialized "java/lang/Math", .code Lib.Math.min.name Lib.Math.min.code 2 (some .int), .methodLink RX5 125 yX1_payloadLength, .instanceMethod yX1_payloadLength, .selects RX1 yX1_payloadLength yX1_payloadLength, .initialized RX1, .code yX1_payloadLength cX1_payloadLength 1 (some .int), .fieldLink RX1 11 "FlashBoot$Manifest" "bytes" "[I"] ++ wsX50 ++ wsX10)
def wsX5_isThere : List Cond := .code yX5_isThere cX5_isThere 2 (some .boolean) :: ([.fieldLink RX5 12 "FlashBoot" "flash" "LFlashBoot$Flash;", .methodLink RX5 189 yX0_at, .instanceMethod yX0_at, .selects RX0 yX0_at yX0_at, .initialized RX0, .code yX0_at cX0_at 2 (some .int), .fieldLink RX0 11 "FlashBoot$Flash" "bytes" "[I"] ++ wsX50 ++ wsX00)
def wsX5_block_r1 : List Cond := [Cond.fieldLink RX5 12 "FlashBoot" "flash" "LFlashBoot$Flash;", Cond.fieldLink RX5 38 "FlashBoot" "order" "LFlashBoot$Manifest;", Cond.fieldLink RX5 19 "FlashBoot" "tape" "LFlashBoot$Tape;", Cond.methodLink RX5 121 yX5_readStagedManifest, Cond.instanceMethod yX5_readStagedManifest, Cond.selects RX5 yX5_readStagedManifest yX5_readStagedManifest, Cond.initialized RX5, Cond.code yX5_readStagedManifest cX5_readStagedManifest 1 (some .boolean), Cond.methodLink RX5 227 yX1_readPage, Cond.instanceMethod yX1_readPage, Cond.selects RX1 yX1_readPage yX1_readPage, Cond.initialized RX1, Cond.code yX1_readPage cX1_readPage 3 none, Cond.fieldLink RX1 11 "FlashBoot$Manifest" "bytes" "[I", Cond.methodLink RX1 24 yX0_at, Cond.instanceMethod yX0_at, Cond.selects RX0 yX0_at yX0_at, Cond.initialized RX0, Cond.code yX0_at cX0_at 2 (some .int), Cond.fieldLink RX0 11 "FlashBoot$Flash" "bytes" "[I", Cond.methodLink RX5 207 yX1_isInRange, Cond.instanceMethod yX1_isInRange, Cond.selects RX1 yX1_isInRange yX1_isInRange, Cond.code yX1_isInRange cX1_isInRange 1 (some .boolean)]
def wsX5_block_r2 : List Cond := [Cond.methodLink RX1 33 yX1_sequence, Cond.instanceMethod yX1_sequence, Cond.selects RX1 yX1_sequence yX1_sequence, Cond.code yX1_sequence cX1_sequence 1 (some .int), Cond.static yX5_isSequence, Cond.code yX5_isSequence cX5_isSequence 1 (some .boolean), Cond.methodLink RX1 41 yX1_payloadLength, Cond.instanceMethod yX1_payloadLength, Cond.selects RX1 yX1_payloadLength yX1_payloadLength, Cond.code yX1_payloadLength cX1_payloadLength 1 (some .int), Cond.static yX5_isLength, Cond.code yX5_isLength cX5_isLength 1 (some .boolean), Cond.methodLink RX1 47 yX1_imageLength, Cond.instanceMethod yX1_imageLength, Cond.selects RX1 yX1_imageLength yX1_imageLength, Cond.code yX1_imageLength cX1_imageLength 1 (some .int), Cond.methodLink RX5 210 yX5_isOurs, Cond.instanceMethod yX5_isOurs, Cond.selects RX5 yX5_isOurs yX5_isOurs, Cond.code yX5_isOurs cX5_isOurs 1 (some .boolean), Cond.fieldLink RX5 57 "FlashBoot" "keyBytes" "[I", Cond.fieldLink RX5 61 "FlashBoot" "vendorByte" "I", Cond.methodLink RX5 216 yX1_isTagged, Cond.instanceMethod yX1_isTagged]
def wsX5_block_r3 : List Cond := [Cond.selects RX1 yX1_isTagged yX1_isTagged, Cond.code yX1_isTagged cX1_isTagged 2 (some .boolean), Cond.static yX5_digest, Cond.code yX5_digest cX5_digest 5 (some .int), Cond.methodLink RX5 290 yX5_digestByte, Cond.static yX5_digestByte, Cond.code yX5_digestByte cX5_digestByte 3 (some .int), Cond.constant RX5 293 (16777619), Cond.methodLink RX1 30 yX1_word, Cond.instanceMethod yX1_word, Cond.selects RX1 yX1_word yX1_word, Cond.code yX1_word cX1_word 4 (some .int), Cond.methodLink RX5 220 yX1_vendor, Cond.instanceMethod yX1_vendor, Cond.selects RX1 yX1_vendor yX1_vendor, Cond.code yX1_vendor cX1_vendor 1 (some .int), Cond.methodLink RX5 125 yX1_payloadLength, Cond.methodLink RX5 128 yX5_isBlockOf, Cond.static yX5_isBlockOf, Cond.code yX5_isBlockOf cX5_isBlockOf 2 (some .boolean), Cond.methodLink RX5 230 yX5_blocksOf, Cond.static yX5_blocksOf, Cond.code yX5_blocksOf cX5_blocksOf 1 (some .int), Cond.methodLink RX5 132 yX5_blockLength]
def wsX5_block_r4 : List Cond := [Cond.instanceMethod yX5_blockLength, Cond.selects RX5 yX5_blockLength yX5_blockLength, Cond.code yX5_blockLength cX5_blockLength 2 (some .int), Cond.methodLink RX5 233 Lib.Math.min.name, Cond.static Lib.Math.min.name, Cond.initialized "java/lang/Math", Cond.code Lib.Math.min.name Lib.Math.min.code 2 (some .int), Cond.methodLink RX5 135 yX5_isThere, Cond.instanceMethod yX5_isThere, Cond.selects RX5 yX5_isThere yX5_isThere, Cond.code yX5_isThere cX5_isThere 2 (some .boolean), Cond.methodLink RX5 189 yX0_at, Cond.methodLink RX5 138 yX0_programRow, Cond.instanceMethod yX0_programRow, Cond.selects RX0 yX0_programRow yX0_programRow, Cond.code yX0_programRow cX0_programRow 5 none, Cond.methodLink RX0 36 yX0_program, Cond.instanceMethod yX0_program, Cond.selects RX0 yX0_program yX0_program, Cond.code yX0_program cX0_program 4 none, Cond.fieldLink RX0 15 "FlashBoot$Flash" "power" "Z", Cond.fieldLink RX0 29 "FlashBoot$Flash" "crashMask" "I", Cond.methodLink RX0 32 yX0_tearNextAct, Cond.instanceMethod yX0_tearNextAct]
def wsX5_block_r5 : List Cond := [Cond.selects RX0 yX0_tearNextAct yX0_tearNextAct, Cond.code yX0_tearNextAct cX0_tearNextAct 1 (some .boolean), Cond.fieldLink RX0 19 "FlashBoot$Flash" "actsDone" "I", Cond.fieldLink RX0 23 "FlashBoot$Flash" "crashIsSet" "Z", Cond.fieldLink RX0 26 "FlashBoot$Flash" "actsToCrash" "I", Cond.methodLink RX5 142 yX0_program, Cond.methodLink RX5 110 yX5_unlessTorn, Cond.instanceMethod yX5_unlessTorn, Cond.selects RX5 yX5_unlessTorn yX5_unlessTorn, Cond.code yX5_unlessTorn cX5_unlessTorn 2 (some .int), Cond.fieldLink RX5 49 "FlashBoot" "runs" "I"]
def wsX5_block : List Cond := .code yX5_block cX5_block 3 (some .int) :: ((wsX5_block_r1 ++ (wsX5_block_r2 ++ (wsX5_block_r3 ++ (wsX5_block_r4 ++ wsX5_block_r5)))) ++ wsX50 ++ wsX00 ++ wsX40 ++ wsX10)
def wsX5_isWhollyStaged : List Cond := .code yX5_isWhollyStaged cX5_isWhollyStaged 3 (some .boolean) :: ([.fieldLink RX5 38 "FlashBoot" "order" "LFlashBoot$Manifest;", .methodLink RX5 125 yX1_payloadLength, .instanceMethod yX1_payloadLength, .selects RX1 yX1_payloadLength yX1_payloadLength, .initialized RX1, .code yX1_payloadLength cX1_payloadLength 1 (some .int), .fieldLink RX1 11 "FlashBoot$Manifest" "bytes" "[I", .methodLink RX5 230 yX5_blocksOf, .static yX5_blocksOf, .initialized RX5, .code yX5_blocksOf cX5_blocksOf 1 (some .int), .methodLink RX5 135 yX5_isThere, .instanceMethod yX5_isThere, .selects RX5 yX5_isThere yX5_isThere, .code yX5_isThere cX5_isThere 2 (some .boolean), .fieldLink RX5 12 "FlashBoot" "flash" "LFlashBoot$Flash;", .methodLink RX5 189 yX0_at, .instanceMethod yX0_at, .selects RX0 yX0_at yX0_at, .initialized RX0, .code yX0_at cX0_at 2 (some .int), .fieldLink RX0 11 "FlashBoot$Flash" "bytes" "[I"] ++ wsX50 ++ wsX10 ++ wsX00)
def wsX5_makeImage_r1 : List Cond := [Cond.fieldLink RX5 12 "FlashBoot" "flash" "LFlashBoot$Flash;", Cond.fieldLink RX5 38 "FlashBoot" "order" "LFlashBoot$Manifest;", Cond.fieldLink RX5 45 "FlashBoot" "patch" "LFlashBoot$Patch;", Cond.methodLink RX5 125 yX1_payloadLength, Cond.instanceMethod yX1_payloadLength, Cond.selects RX1 yX1_payloadLength yX1_payloadLength, Cond.initialized RX1, Cond.code yX1_payloadLength cX1_payloadLength 1 (some .int), Cond.fieldLink RX1 11 "FlashBoot$Manifest" "bytes" "[I", Cond.methodLink RX5 239 yX0_digestOf, Cond.instanceMethod yX0_digestOf, Cond.selects RX0 yX0_digestOf yX0_digestOf, Cond.initialized RX0, Cond.code yX0_digestOf cX0_digestOf 5 (some .int), Cond.methodLink RX0 44 yX0_at, Cond.instanceMethod yX0_at, Cond.selects RX0 yX0_at yX0_at, Cond.code yX0_at cX0_at 2 (some .int), Cond.fieldLink RX0 11 "FlashBoot$Flash" "bytes" "[I", Cond.static yX5_digestByte, Cond.initialized RX5, Cond.code yX5_digestByte cX5_digestByte 3 (some .int), Cond.constant RX5 293 (16777619), Cond.methodLink RX5 242 yX1_payloadDigest]
def wsX5_makeImage_r2 : List Cond := [Cond.instanceMethod yX1_payloadDigest, Cond.selects RX1 yX1_payloadDigest yX1_payloadDigest, Cond.code yX1_payloadDigest cX1_payloadDigest 1 (some .int), Cond.methodLink RX1 30 yX1_word, Cond.instanceMethod yX1_word, Cond.selects RX1 yX1_word yX1_word, Cond.code yX1_word cX1_word 4 (some .int), Cond.methodLink RX5 245 yX1_baseDigest, Cond.instanceMethod yX1_baseDigest, Cond.selects RX1 yX1_baseDigest yX1_baseDigest, Cond.code yX1_baseDigest cX1_baseDigest 1 (some .int), Cond.methodLink RX5 248 yX3_digest, Cond.instanceMethod yX3_digest, Cond.selects RX3 yX3_digest yX3_digest, Cond.initialized RX3, Cond.code yX3_digest cX3_digest 2 (some .int), Cond.fieldLink RX3 18 "FlashBoot$Slot" "header" "I", Cond.methodLink RX3 27 yX0_word, Cond.instanceMethod yX0_word, Cond.selects RX0 yX0_word yX0_word, Cond.code yX0_word cX0_word 4 (some .int), Cond.methodLink RX5 250 yX3_length, Cond.instanceMethod yX3_length, Cond.selects RX3 yX3_length yX3_length]
def wsX5_makeImage_r3 : List Cond := [Cond.code yX3_length cX3_length 2 (some .int), Cond.methodLink RX3 21 yX0_at, Cond.methodLink RX5 255 yX2_unfold, Cond.instanceMethod yX2_unfold, Cond.selects RX2 yX2_unfold yX2_unfold, Cond.initialized RX2, Cond.code yX2_unfold cX2_unfold 9 (some .boolean), Cond.fieldLink RX2 15 "FlashBoot$Patch" "made" "I", Cond.methodLink RX2 19 yX0_at, Cond.methodLink RX2 25 yX2_take, Cond.instanceMethod yX2_take, Cond.selects RX2 yX2_take yX2_take, Cond.code yX2_take cX2_take 5 (some .boolean), Cond.fieldLink RX2 9 "FlashBoot$Patch" "image" "[I", Cond.methodLink RX2 29 yX2_takeBase, Cond.instanceMethod yX2_takeBase, Cond.selects RX2 yX2_takeBase yX2_takeBase, Cond.code yX2_takeBase cX2_takeBase 6 (some .boolean), Cond.methodLink RX5 262 yX1_imageLength, Cond.instanceMethod yX1_imageLength, Cond.selects RX1 yX1_imageLength yX1_imageLength, Cond.code yX1_imageLength cX1_imageLength 1 (some .int), Cond.methodLink RX5 96 yX5_digest, Cond.static yX5_digest]
def wsX5_makeImage_r4 : List Cond := [Cond.code yX5_digest cX5_digest 5 (some .int), Cond.methodLink RX5 290 yX5_digestByte, Cond.methodLink RX5 268 yX1_imageDigest, Cond.instanceMethod yX1_imageDigest, Cond.selects RX1 yX1_imageDigest yX1_imageDigest, Cond.code yX1_imageDigest cX1_imageDigest 1 (some .int)]
def wsX5_makeImage : List Cond := .code yX5_makeImage cX5_makeImage 4 (some .boolean) :: ((wsX5_makeImage_r1 ++ (wsX5_makeImage_r2 ++ (wsX5_makeImage_r3 ++ wsX5_makeImage_r4))) ++ wsX50 ++ wsX30 ++ wsX20 ++ wsX10 ++ wsX00)
def wsX5_programUpdate_r1 : List Cond := [Cond.fieldLink RX5 12 "FlashBoot" "flash" "LFlashBoot$Flash;", Cond.fieldLink RX5 45 "FlashBoot" "patch" "LFlashBoot$Patch;", Cond.fieldLink RX5 38 "FlashBoot" "order" "LFlashBoot$Manifest;", Cond.methodLink RX5 83 yX3_eraseHeader, Cond.instanceMethod yX3_eraseHeader, Cond.selects RX3 yX3_eraseHeader yX3_eraseHeader, Cond.initialized RX3, Cond.code yX3_eraseHeader cX3_eraseHeader 2 none, Cond.fieldLink RX3 9 "FlashBoot$Slot" "firstPage" "I", Cond.methodLink RX3 55 yX0_erase, Cond.instanceMethod yX0_erase, Cond.selects RX0 yX0_erase yX0_erase, Cond.initialized RX0, Cond.code yX0_erase cX0_erase 4 none, Cond.fieldLink RX0 15 "FlashBoot$Flash" "power" "Z", Cond.fieldLink RX0 29 "FlashBoot$Flash" "crashMask" "I", Cond.fieldLink RX0 11 "FlashBoot$Flash" "bytes" "[I", Cond.methodLink RX0 32 yX0_tearNextAct, Cond.instanceMethod yX0_tearNextAct, Cond.selects RX0 yX0_tearNextAct yX0_tearNextAct, Cond.code yX0_tearNextAct cX0_tearNextAct 1 (some .boolean), Cond.fieldLink RX0 19 "FlashBoot$Flash" "actsDone" "I", Cond.fieldLink RX0 23 "FlashBoot$Flash" "crashIsSet" "Z", Cond.fieldLink RX0 26 "FlashBoot$Flash" "actsToCrash" "I"]
def wsX5_programUpdate_r2 : List Cond := [Cond.methodLink RX5 79 yX3_eraseImage, Cond.instanceMethod yX3_eraseImage, Cond.selects RX3 yX3_eraseImage yX3_eraseImage, Cond.code yX3_eraseImage cX3_eraseImage 3 none, Cond.methodLink RX5 92 yX3_programImage, Cond.instanceMethod yX3_programImage, Cond.selects RX3 yX3_programImage yX3_programImage, Cond.code yX3_programImage cX3_programImage 4 none, Cond.fieldLink RX3 15 "FlashBoot$Slot" "start" "I", Cond.methodLink RX3 59 yX0_programRow, Cond.instanceMethod yX0_programRow, Cond.selects RX0 yX0_programRow yX0_programRow, Cond.code yX0_programRow cX0_programRow 5 none, Cond.methodLink RX0 36 yX0_program, Cond.instanceMethod yX0_program, Cond.selects RX0 yX0_program yX0_program, Cond.code yX0_program cX0_program 4 none, Cond.methodLink RX5 262 yX1_imageLength, Cond.instanceMethod yX1_imageLength, Cond.selects RX1 yX1_imageLength yX1_imageLength, Cond.initialized RX1, Cond.code yX1_imageLength cX1_imageLength 1 (some .int), Cond.fieldLink RX1 11 "FlashBoot$Manifest" "bytes" "[I", Cond.methodLink RX5 146 yX1_sequence]
def wsX5_programUpdate_r3 : List Cond := [Cond.instanceMethod yX1_sequence, Cond.selects RX1 yX1_sequence yX1_sequence, Cond.code yX1_sequence cX1_sequence 1 (some .int), Cond.methodLink RX5 268 yX1_imageDigest, Cond.instanceMethod yX1_imageDigest, Cond.selects RX1 yX1_imageDigest yX1_imageDigest, Cond.code yX1_imageDigest cX1_imageDigest 1 (some .int), Cond.methodLink RX1 30 yX1_word, Cond.instanceMethod yX1_word, Cond.selects RX1 yX1_word yX1_word, Cond.code yX1_word cX1_word 4 (some .int), Cond.methodLink RX5 100 yX3_programName, Cond.instanceMethod yX3_programName, Cond.selects RX3 yX3_programName yX3_programName, Cond.code yX3_programName cX3_programName 5 none, Cond.fieldLink RX3 18 "FlashBoot$Slot" "header" "I", Cond.methodLink RX3 63 yX0_program, Cond.methodLink RX3 67 yX0_programWord, Cond.instanceMethod yX0_programWord, Cond.selects RX0 yX0_programWord yX0_programWord, Cond.code yX0_programWord cX0_programWord 4 none, Cond.static yX5_byteOfWord, Cond.initialized RX5, Cond.code yX5_byteOfWord cX5_byteOfWord 2 (some .int)]
def wsX5_programUpdate_r4 : List Cond := [Cond.methodLink RX5 271 yX3_programTrials, Cond.instanceMethod yX3_programTrials, Cond.selects RX3 yX3_programTrials yX3_programTrials, Cond.code yX3_programTrials cX3_programTrials 2 none, Cond.methodLink RX5 107 yX3_programWhole, Cond.instanceMethod yX3_programWhole, Cond.selects RX3 yX3_programWhole yX3_programWhole, Cond.code yX3_programWhole cX3_programWhole 2 none, Cond.methodLink RX5 86 yX0_erase]
def wsX5_programUpdate : List Cond := .code yX5_programUpdate cX5_programUpdate 2 none :: ((wsX5_programUpdate_r1 ++ (wsX5_programUpdate_r2 ++ (wsX5_programUpdate_r3 ++ wsX5_programUpdate_r4))) ++ wsX50 ++ wsX20 ++ wsX30 ++ wsX00 ++ wsX10)
def wsX5_install_r1 : List Cond := [Cond.fieldLink RX5 12 "FlashBoot" "flash" "LFlashBoot$Flash;", Cond.fieldLink RX5 38 "FlashBoot" "order" "LFlashBoot$Manifest;", Cond.fieldLink RX5 49 "FlashBoot" "runs" "I", Cond.methodLink RX5 121 yX5_readStagedManifest, Cond.instanceMethod yX5_readStagedManifest, Cond.selects RX5 yX5_readStagedManifest yX5_readStagedManifest, Cond.initialized RX5, Cond.code yX5_readStagedManifest cX5_readStagedManifest 1 (some .boolean), Cond.methodLink RX5 227 yX1_readPage, Cond.instanceMethod yX1_readPage, Cond.selects RX1 yX1_readPage yX1_readPage, Cond.initialized RX1, Cond.code yX1_readPage cX1_readPage 3 none, Cond.fieldLink RX1 11 "FlashBoot$Manifest" "bytes" "[I", Cond.methodLink RX1 24 yX0_at, Cond.instanceMethod yX0_at, Cond.selects RX0 yX0_at yX0_at, Cond.initialized RX0, Cond.code yX0_at cX0_at 2 (some .int), Cond.fieldLink RX0 11 "FlashBoot$Flash" "bytes" "[I", Cond.methodLink RX5 207 yX1_isInRange, Cond.instanceMethod yX1_isInRange, Cond.selects RX1 yX1_isInRange yX1_isInRange, Cond.code yX1_isInRange cX1_isInRange 1 (some .boolean)]
def wsX5_install_r2 : List Cond := [Cond.methodLink RX1 33 yX1_sequence, Cond.instanceMethod yX1_sequence, Cond.selects RX1 yX1_sequence yX1_sequence, Cond.code yX1_sequence cX1_sequence 1 (some .int), Cond.static yX5_isSequence, Cond.code yX5_isSequence cX5_isSequence 1 (some .boolean), Cond.methodLink RX1 41 yX1_payloadLength, Cond.instanceMethod yX1_payloadLength, Cond.selects RX1 yX1_payloadLength yX1_payloadLength, Cond.code yX1_payloadLength cX1_payloadLength 1 (some .int), Cond.static yX5_isLength, Cond.code yX5_isLength cX5_isLength 1 (some .boolean), Cond.methodLink RX1 47 yX1_imageLength, Cond.instanceMethod yX1_imageLength, Cond.selects RX1 yX1_imageLength yX1_imageLength, Cond.code yX1_imageLength cX1_imageLength 1 (some .int), Cond.methodLink RX5 210 yX5_isOurs, Cond.instanceMethod yX5_isOurs, Cond.selects RX5 yX5_isOurs yX5_isOurs, Cond.code yX5_isOurs cX5_isOurs 1 (some .boolean), Cond.fieldLink RX5 57 "FlashBoot" "keyBytes" "[I", Cond.fieldLink RX5 61 "FlashBoot" "vendorByte" "I", Cond.methodLink RX5 216 yX1_isTagged, Cond.instanceMethod yX1_isTagged]
def wsX5_install_r3 : List Cond := [Cond.selects RX1 yX1_isTagged yX1_isTagged, Cond.code yX1_isTagged cX1_isTagged 2 (some .boolean), Cond.static yX5_digest, Cond.code yX5_digest cX5_digest 5 (some .int), Cond.methodLink RX5 290 yX5_digestByte, Cond.static yX5_digestByte, Cond.code yX5_digestByte cX5_digestByte 3 (some .int), Cond.constant RX5 293 (16777619), Cond.methodLink RX1 30 yX1_word, Cond.instanceMethod yX1_word, Cond.selects RX1 yX1_word yX1_word, Cond.code yX1_word cX1_word 4 (some .int), Cond.methodLink RX5 220 yX1_vendor, Cond.instanceMethod yX1_vendor, Cond.selects RX1 yX1_vendor yX1_vendor, Cond.code yX1_vendor cX1_vendor 1 (some .int), Cond.methodLink RX5 146 yX1_sequence, Cond.methodLink RX5 149 yX5_isOld, Cond.instanceMethod yX5_isOld, Cond.selects RX5 yX5_isOld yX5_isOld, Cond.code yX5_isOld cX5_isOld 2 (some .boolean), Cond.methodLink RX5 223 yX5_counter, Cond.instanceMethod yX5_counter, Cond.selects RX5 yX5_counter yX5_counter]
def wsX5_install_r4 : List Cond := [Cond.code yX5_counter cX5_counter 3 (some .int), Cond.methodLink RX5 189 yX0_at, Cond.methodLink RX5 192 yJ6_bitCount_0f7a4, Cond.static yJ6_bitCount_0f7a4, Cond.initialized RJ6, Cond.code yJ6_bitCount_0f7a4 cJ6_bitCount_0f7a4 1 (some .int), Cond.constant RJ6 265 (1431655765), Cond.constant RJ6 266 (858993459), Cond.constant RJ6 267 (252645135), Cond.methodLink RX5 155 yX5_slot, Cond.instanceMethod yX5_slot, Cond.selects RX5 yX5_slot yX5_slot, Cond.code yX5_slot cX5_slot 2 (some (.object "FlashBoot$Slot")), Cond.fieldLink RX5 28 "FlashBoot" "lower" "LFlashBoot$Slot;", Cond.fieldLink RX5 32 "FlashBoot" "upper" "LFlashBoot$Slot;", Cond.methodLink RX5 180 yX3_sequence, Cond.instanceMethod yX3_sequence, Cond.selects RX3 yX3_sequence yX3_sequence, Cond.initialized RX3, Cond.code yX3_sequence cX3_sequence 2 (some .int), Cond.fieldLink RX3 18 "FlashBoot$Slot" "header" "I", Cond.methodLink RX3 21 yX0_at, Cond.methodLink RX5 152 yX5_isWhollyStaged, Cond.instanceMethod yX5_isWhollyStaged]
def wsX5_install_r5 : List Cond := [Cond.selects RX5 yX5_isWhollyStaged yX5_isWhollyStaged, Cond.code yX5_isWhollyStaged cX5_isWhollyStaged 3 (some .boolean), Cond.methodLink RX5 125 yX1_payloadLength, Cond.methodLink RX5 230 yX5_blocksOf, Cond.static yX5_blocksOf, Cond.code yX5_blocksOf cX5_blocksOf 1 (some .int), Cond.methodLink RX5 135 yX5_isThere, Cond.instanceMethod yX5_isThere, Cond.selects RX5 yX5_isThere yX5_isThere, Cond.code yX5_isThere cX5_isThere 2 (some .boolean), Cond.methodLink RX5 159 yX5_makeImage, Cond.instanceMethod yX5_makeImage, Cond.selects RX5 yX5_makeImage yX5_makeImage, Cond.code yX5_makeImage cX5_makeImage 4 (some .boolean), Cond.fieldLink RX5 45 "FlashBoot" "patch" "LFlashBoot$Patch;", Cond.methodLink RX5 239 yX0_digestOf, Cond.instanceMethod yX0_digestOf, Cond.selects RX0 yX0_digestOf yX0_digestOf, Cond.code yX0_digestOf cX0_digestOf 5 (some .int), Cond.methodLink RX0 44 yX0_at, Cond.methodLink RX5 242 yX1_payloadDigest, Cond.instanceMethod yX1_payloadDigest, Cond.selects RX1 yX1_payloadDigest yX1_payloadDigest, Cond.code yX1_payloadDigest cX1_payloadDigest 1 (some .int)]
def wsX5_install_r6 : List Cond := [Cond.methodLink RX5 245 yX1_baseDigest, Cond.instanceMethod yX1_baseDigest, Cond.selects RX1 yX1_baseDigest yX1_baseDigest, Cond.code yX1_baseDigest cX1_baseDigest 1 (some .int), Cond.methodLink RX5 248 yX3_digest, Cond.instanceMethod yX3_digest, Cond.selects RX3 yX3_digest yX3_digest, Cond.code yX3_digest cX3_digest 2 (some .int), Cond.methodLink RX3 27 yX0_word, Cond.instanceMethod yX0_word, Cond.selects RX0 yX0_word yX0_word, Cond.code yX0_word cX0_word 4 (some .int), Cond.methodLink RX5 250 yX3_length, Cond.instanceMethod yX3_length, Cond.selects RX3 yX3_length yX3_length, Cond.code yX3_length cX3_length 2 (some .int), Cond.methodLink RX5 255 yX2_unfold, Cond.instanceMethod yX2_unfold, Cond.selects RX2 yX2_unfold yX2_unfold, Cond.initialized RX2, Cond.code yX2_unfold cX2_unfold 9 (some .boolean), Cond.fieldLink RX2 15 "FlashBoot$Patch" "made" "I", Cond.methodLink RX2 19 yX0_at, Cond.methodLink RX2 25 yX2_take]
def wsX5_install_r7 : List Cond := [Cond.instanceMethod yX2_take, Cond.selects RX2 yX2_take yX2_take, Cond.code yX2_take cX2_take 5 (some .boolean), Cond.fieldLink RX2 9 "FlashBoot$Patch" "image" "[I", Cond.methodLink RX2 29 yX2_takeBase, Cond.instanceMethod yX2_takeBase, Cond.selects RX2 yX2_takeBase yX2_takeBase, Cond.code yX2_takeBase cX2_takeBase 6 (some .boolean), Cond.methodLink RX5 262 yX1_imageLength, Cond.methodLink RX5 96 yX5_digest, Cond.methodLink RX5 268 yX1_imageDigest, Cond.instanceMethod yX1_imageDigest, Cond.selects RX1 yX1_imageDigest yX1_imageDigest, Cond.code yX1_imageDigest cX1_imageDigest 1 (some .int), Cond.methodLink RX5 163 yX5_programUpdate, Cond.instanceMethod yX5_programUpdate, Cond.selects RX5 yX5_programUpdate yX5_programUpdate, Cond.code yX5_programUpdate cX5_programUpdate 2 none, Cond.methodLink RX5 83 yX3_eraseHeader, Cond.instanceMethod yX3_eraseHeader, Cond.selects RX3 yX3_eraseHeader yX3_eraseHeader, Cond.code yX3_eraseHeader cX3_eraseHeader 2 none, Cond.fieldLink RX3 9 "FlashBoot$Slot" "firstPage" "I", Cond.methodLink RX3 55 yX0_erase]
def wsX5_install_r8 : List Cond := [Cond.instanceMethod yX0_erase, Cond.selects RX0 yX0_erase yX0_erase, Cond.code yX0_erase cX0_erase 4 none, Cond.fieldLink RX0 15 "FlashBoot$Flash" "power" "Z", Cond.fieldLink RX0 29 "FlashBoot$Flash" "crashMask" "I", Cond.methodLink RX0 32 yX0_tearNextAct, Cond.instanceMethod yX0_tearNextAct, Cond.selects RX0 yX0_tearNextAct yX0_tearNextAct, Cond.code yX0_tearNextAct cX0_tearNextAct 1 (some .boolean), Cond.fieldLink RX0 19 "FlashBoot$Flash" "actsDone" "I", Cond.fieldLink RX0 23 "FlashBoot$Flash" "crashIsSet" "Z", Cond.fieldLink RX0 26 "FlashBoot$Flash" "actsToCrash" "I", Cond.methodLink RX5 79 yX3_eraseImage, Cond.instanceMethod yX3_eraseImage, Cond.selects RX3 yX3_eraseImage yX3_eraseImage, Cond.code yX3_eraseImage cX3_eraseImage 3 none, Cond.methodLink RX5 92 yX3_programImage, Cond.instanceMethod yX3_programImage, Cond.selects RX3 yX3_programImage yX3_programImage, Cond.code yX3_programImage cX3_programImage 4 none, Cond.fieldLink RX3 15 "FlashBoot$Slot" "start" "I", Cond.methodLink RX3 59 yX0_programRow, Cond.instanceMethod yX0_programRow, Cond.selects RX0 yX0_programRow yX0_programRow]
def wsX5_install_r9 : List Cond := [Cond.code yX0_programRow cX0_programRow 5 none, Cond.methodLink RX0 36 yX0_program, Cond.instanceMethod yX0_program, Cond.selects RX0 yX0_program yX0_program, Cond.code yX0_program cX0_program 4 none, Cond.methodLink RX5 100 yX3_programName, Cond.instanceMethod yX3_programName, Cond.selects RX3 yX3_programName yX3_programName, Cond.code yX3_programName cX3_programName 5 none, Cond.methodLink RX3 63 yX0_program, Cond.methodLink RX3 67 yX0_programWord, Cond.instanceMethod yX0_programWord, Cond.selects RX0 yX0_programWord yX0_programWord, Cond.code yX0_programWord cX0_programWord 4 none, Cond.static yX5_byteOfWord, Cond.code yX5_byteOfWord cX5_byteOfWord 2 (some .int), Cond.methodLink RX5 271 yX3_programTrials, Cond.instanceMethod yX3_programTrials, Cond.selects RX3 yX3_programTrials yX3_programTrials, Cond.code yX3_programTrials cX3_programTrials 2 none, Cond.methodLink RX5 107 yX3_programWhole, Cond.instanceMethod yX3_programWhole, Cond.selects RX3 yX3_programWhole yX3_programWhole, Cond.code yX3_programWhole cX3_programWhole 2 none]
def wsX5_install_r10 : List Cond := [Cond.methodLink RX5 86 yX0_erase, Cond.methodLink RX5 110 yX5_unlessTorn, Cond.instanceMethod yX5_unlessTorn, Cond.selects RX5 yX5_unlessTorn yX5_unlessTorn, Cond.code yX5_unlessTorn cX5_unlessTorn 2 (some .int)]
def wsX5_install : List Cond := .code yX5_install cX5_install 1 (some .int) :: ((wsX5_install_r1 ++ (wsX5_install_r2 ++ (wsX5_install_r3 ++ (wsX5_install_r4 ++ (wsX5_install_r5 ++ (wsX5_install_r6 ++ (wsX5_install_r7 ++ (wsX5_install_r8 ++ (wsX5_install_r9 ++ wsX5_install_r10))))))))) ++ wsX50 ++ wsX00 ++ wsX10 ++ wsX30 ++ wsX20)
def wsX5_isGood_r1 : List Cond := [Cond.fieldLink RX5 12 "FlashBoot" "flash" "LFlashBoot$Flash;", Cond.methodLink RX5 223 yX5_counter, Cond.instanceMethod yX5_counter, Cond.selects RX5 yX5_counter yX5_counter, Cond.initialized RX5, Cond.code yX5_counter cX5_counter 3 (some .int), Cond.methodLink RX5 189 yX0_at, Cond.instanceMethod yX0_at, Cond.selects RX0 yX0_at yX0_at, Cond.initialized RX0, Cond.code yX0_at cX0_at 2 (some .int), Cond.fieldLink RX0 11 "FlashBoot$Flash" "bytes" "[I", Cond.methodLink RX5 192 yJ6_bitCount_0f7a4, Cond.static yJ6_bitCount_0f7a4, Cond.initialized RJ6, Cond.code yJ6_bitCount_0f7a4 cJ6_bitCount_0f7a4 1 (some .int), Cond.constant RJ6 265 (1431655765), Cond.constant RJ6 266 (858993459), Cond.constant RJ6 267 (252645135), Cond.methodLink RX5 281 yX3_isGood, Cond.instanceMethod yX3_isGood, Cond.selects RX3 yX3_isGood yX3_isGood, Cond.initialized RX3, Cond.code yX3_isGood cX3_isGood 3 (some .boolean)]
def wsX5_isGood_r2 : List Cond := [Cond.fieldLink RX3 15 "FlashBoot$Slot" "start" "I", Cond.methodLink RX3 34 yX3_isWhole, Cond.instanceMethod yX3_isWhole, Cond.selects RX3 yX3_isWhole yX3_isWhole, Cond.code yX3_isWhole cX3_isWhole 2 (some .boolean), Cond.fieldLink RX3 18 "FlashBoot$Slot" "header" "I", Cond.methodLink RX3 21 yX0_at, Cond.methodLink RX3 37 yX3_length, Cond.instanceMethod yX3_length, Cond.selects RX3 yX3_length yX3_length, Cond.code yX3_length cX3_length 2 (some .int), Cond.static yX5_isLength, Cond.code yX5_isLength cX5_isLength 1 (some .boolean), Cond.methodLink RX3 45 yX3_sequence, Cond.instanceMethod yX3_sequence, Cond.selects RX3 yX3_sequence yX3_sequence, Cond.code yX3_sequence cX3_sequence 2 (some .int), Cond.methodLink RX3 48 yX0_digestOf, Cond.instanceMethod yX0_digestOf, Cond.selects RX0 yX0_digestOf yX0_digestOf, Cond.code yX0_digestOf cX0_digestOf 5 (some .int), Cond.methodLink RX0 44 yX0_at, Cond.static yX5_digestByte, Cond.code yX5_digestByte cX5_digestByte 3 (some .int)]
def wsX5_isGood_r3 : List Cond := [Cond.constant RX5 293 (16777619), Cond.methodLink RX3 52 yX3_digest, Cond.instanceMethod yX3_digest, Cond.selects RX3 yX3_digest yX3_digest, Cond.code yX3_digest cX3_digest 2 (some .int), Cond.methodLink RX3 27 yX0_word, Cond.instanceMethod yX0_word, Cond.selects RX0 yX0_word yX0_word, Cond.code yX0_word cX0_word 4 (some .int)]
def wsX5_isGood : List Cond := .code yX5_isGood cX5_isGood 2 (some .boolean) :: ((wsX5_isGood_r1 ++ (wsX5_isGood_r2 ++ wsX5_isGood_r3)) ++ wsX50 ++ wsX00 ++ wsX30)
def wsX5_later : List Cond := .code yX5_later cX5_later 3 (some .int) :: ([.fieldLink RX5 32 "FlashBoot" "upper" "LFlashBoot$Slot;", .fieldLink RX5 12 "FlashBoot" "flash" "LFlashBoot$Flash;", .fieldLink RX5 28 "FlashBoot" "lower" "LFlashBoot$Slot;", .methodLink RX5 180 yX3_sequence, .instanceMethod yX3_sequence, .selects RX3 yX3_sequence yX3_sequence, .initialized RX3, .code yX3_sequence cX3_sequence 2 (some .int), .fieldLink RX3 18 "FlashBoot$Slot" "header" "I", .methodLink RX3 21 yX0_at, .instanceMethod yX0_at, .selects RX0 yX0_at yX0_at, .initialized RX0, .code yX0_at cX0_at 2 (some .int), .fieldLink RX0 11 "FlashBoot$Flash" "bytes" "[I"] ++ wsX50 ++ wsX30 ++ wsX00)
def wsX5_slotOnTrial_r1 : List Cond := [Cond.fieldLink RX5 28 "FlashBoot" "lower" "LFlashBoot$Slot;", Cond.fieldLink RX5 12 "FlashBoot" "flash" "LFlashBoot$Flash;", Cond.fieldLink RX5 32 "FlashBoot" "upper" "LFlashBoot$Slot;", Cond.methodLink RX5 200 yX5_isGood, Cond.instanceMethod yX5_isGood, Cond.selects RX5 yX5_isGood yX5_isGood, Cond.initialized RX5, Cond.code yX5_isGood cX5_isGood 2 (some .boolean), Cond.methodLink RX5 223 yX5_counter, Cond.instanceMethod yX5_counter, Cond.selects RX5 yX5_counter yX5_counter, Cond.code yX5_counter cX5_counter 3 (some .int), Cond.methodLink RX5 189 yX0_at, Cond.instanceMethod yX0_at, Cond.selects RX0 yX0_at yX0_at, Cond.initialized RX0, Cond.code yX0_at cX0_at 2 (some .int), Cond.fieldLink RX0 11 "FlashBoot$Flash" "bytes" "[I", Cond.methodLink RX5 192 yJ6_bitCount_0f7a4, Cond.static yJ6_bitCount_0f7a4, Cond.initialized RJ6, Cond.code yJ6_bitCount_0f7a4 cJ6_bitCount_0f7a4 1 (some .int), Cond.constant RJ6 265 (1431655765), Cond.constant RJ6 266 (858993459)]
def wsX5_slotOnTrial_r2 : List Cond := [Cond.constant RJ6 267 (252645135), Cond.methodLink RX5 281 yX3_isGood, Cond.instanceMethod yX3_isGood, Cond.selects RX3 yX3_isGood yX3_isGood, Cond.initialized RX3, Cond.code yX3_isGood cX3_isGood 3 (some .boolean), Cond.fieldLink RX3 15 "FlashBoot$Slot" "start" "I", Cond.methodLink RX3 34 yX3_isWhole, Cond.instanceMethod yX3_isWhole, Cond.selects RX3 yX3_isWhole yX3_isWhole, Cond.code yX3_isWhole cX3_isWhole 2 (some .boolean), Cond.fieldLink RX3 18 "FlashBoot$Slot" "header" "I", Cond.methodLink RX3 21 yX0_at, Cond.methodLink RX3 37 yX3_length, Cond.instanceMethod yX3_length, Cond.selects RX3 yX3_length yX3_length, Cond.code yX3_length cX3_length 2 (some .int), Cond.static yX5_isLength, Cond.code yX5_isLength cX5_isLength 1 (some .boolean), Cond.methodLink RX3 45 yX3_sequence, Cond.instanceMethod yX3_sequence, Cond.selects RX3 yX3_sequence yX3_sequence, Cond.code yX3_sequence cX3_sequence 2 (some .int), Cond.methodLink RX3 48 yX0_digestOf]
def wsX5_slotOnTrial_r3 : List Cond := [Cond.instanceMethod yX0_digestOf, Cond.selects RX0 yX0_digestOf yX0_digestOf, Cond.code yX0_digestOf cX0_digestOf 5 (some .int), Cond.methodLink RX0 44 yX0_at, Cond.static yX5_digestByte, Cond.code yX5_digestByte cX5_digestByte 3 (some .int), Cond.constant RX5 293 (16777619), Cond.methodLink RX3 52 yX3_digest, Cond.instanceMethod yX3_digest, Cond.selects RX3 yX3_digest yX3_digest, Cond.code yX3_digest cX3_digest 2 (some .int), Cond.methodLink RX3 27 yX0_word, Cond.instanceMethod yX0_word, Cond.selects RX0 yX0_word yX0_word, Cond.code yX0_word cX0_word 4 (some .int), Cond.methodLink RX5 274 yX3_isOnTrial, Cond.instanceMethod yX3_isOnTrial, Cond.selects RX3 yX3_isOnTrial yX3_isOnTrial, Cond.code yX3_isOnTrial cX3_isOnTrial 2 (some .boolean), Cond.methodLink RX3 30 yX3_isConfirmed, Cond.instanceMethod yX3_isConfirmed, Cond.selects RX3 yX3_isConfirmed yX3_isConfirmed, Cond.code yX3_isConfirmed cX3_isConfirmed 2 (some .boolean), Cond.methodLink RX5 277 yX5_later]
def wsX5_slotOnTrial_r4 : List Cond := [Cond.instanceMethod yX5_later, Cond.selects RX5 yX5_later yX5_later, Cond.code yX5_later cX5_later 3 (some .int), Cond.methodLink RX5 180 yX3_sequence]
def wsX5_slotOnTrial : List Cond := .code yX5_slotOnTrial cX5_slotOnTrial 1 (some .int) :: ((wsX5_slotOnTrial_r1 ++ (wsX5_slotOnTrial_r2 ++ (wsX5_slotOnTrial_r3 ++ wsX5_slotOnTrial_r4))) ++ wsX50 ++ wsX00 ++ wsX30)
def wsX5_slotConfirmed_r1 : List Cond := [Cond.fieldLink RX5 28 "FlashBoot" "lower" "LFlashBoot$Slot;", Cond.fieldLink RX5 12 "FlashBoot" "flash" "LFlashBoot$Flash;", Cond.fieldLink RX5 32 "FlashBoot" "upper" "LFlashBoot$Slot;", Cond.methodLink RX5 200 yX5_isGood, Cond.instanceMethod yX5_isGood, Cond.selects RX5 yX5_isGood yX5_isGood, Cond.initialized RX5, Cond.code yX5_isGood cX5_isGood 2 (some .boolean), Cond.methodLink RX5 223 yX5_counter, Cond.instanceMethod yX5_counter, Cond.selects RX5 yX5_counter yX5_counter, Cond.code yX5_counter cX5_counter 3 (some .int), Cond.methodLink RX5 189 yX0_at, Cond.instanceMethod yX0_at, Cond.selects RX0 yX0_at yX0_at, Cond.initialized RX0, Cond.code yX0_at cX0_at 2 (some .int), Cond.fieldLink RX0 11 "FlashBoot$Flash" "bytes" "[I", Cond.methodLink RX5 192 yJ6_bitCount_0f7a4, Cond.static yJ6_bitCount_0f7a4, Cond.initialized RJ6, Cond.code yJ6_bitCount_0f7a4 cJ6_bitCount_0f7a4 1 (some .int), Cond.constant RJ6 265 (1431655765), Cond.constant RJ6 266 (858993459)]
def wsX5_slotConfirmed_r2 : List Cond := [Cond.constant RJ6 267 (252645135), Cond.methodLink RX5 281 yX3_isGood, Cond.instanceMethod yX3_isGood, Cond.selects RX3 yX3_isGood yX3_isGood, Cond.initialized RX3, Cond.code yX3_isGood cX3_isGood 3 (some .boolean), Cond.fieldLink RX3 15 "FlashBoot$Slot" "start" "I", Cond.methodLink RX3 34 yX3_isWhole, Cond.instanceMethod yX3_isWhole, Cond.selects RX3 yX3_isWhole yX3_isWhole, Cond.code yX3_isWhole cX3_isWhole 2 (some .boolean), Cond.fieldLink RX3 18 "FlashBoot$Slot" "header" "I", Cond.methodLink RX3 21 yX0_at, Cond.methodLink RX3 37 yX3_length, Cond.instanceMethod yX3_length, Cond.selects RX3 yX3_length yX3_length, Cond.code yX3_length cX3_length 2 (some .int), Cond.static yX5_isLength, Cond.code yX5_isLength cX5_isLength 1 (some .boolean), Cond.methodLink RX3 45 yX3_sequence, Cond.instanceMethod yX3_sequence, Cond.selects RX3 yX3_sequence yX3_sequence, Cond.code yX3_sequence cX3_sequence 2 (some .int), Cond.methodLink RX3 48 yX0_digestOf]
def wsX5_slotConfirmed_r3 : List Cond := [Cond.instanceMethod yX0_digestOf, Cond.selects RX0 yX0_digestOf yX0_digestOf, Cond.code yX0_digestOf cX0_digestOf 5 (some .int), Cond.methodLink RX0 44 yX0_at, Cond.static yX5_digestByte, Cond.code yX5_digestByte cX5_digestByte 3 (some .int), Cond.constant RX5 293 (16777619), Cond.methodLink RX3 52 yX3_digest, Cond.instanceMethod yX3_digest, Cond.selects RX3 yX3_digest yX3_digest, Cond.code yX3_digest cX3_digest 2 (some .int), Cond.methodLink RX3 27 yX0_word, Cond.instanceMethod yX0_word, Cond.selects RX0 yX0_word yX0_word, Cond.code yX0_word cX0_word 4 (some .int), Cond.methodLink RX5 176 yX3_isConfirmed, Cond.instanceMethod yX3_isConfirmed, Cond.selects RX3 yX3_isConfirmed yX3_isConfirmed, Cond.code yX3_isConfirmed cX3_isConfirmed 2 (some .boolean), Cond.methodLink RX5 277 yX5_later, Cond.instanceMethod yX5_later, Cond.selects RX5 yX5_later yX5_later, Cond.code yX5_later cX5_later 3 (some .int), Cond.methodLink RX5 180 yX3_sequence]
def wsX5_slotConfirmed : List Cond := .code yX5_slotConfirmed cX5_slotConfirmed 1 (some .int) :: ((wsX5_slotConfirmed_r1 ++ (wsX5_slotConfirmed_r2 ++ wsX5_slotConfirmed_r3)) ++ wsX50 ++ wsX00 ++ wsX30)
def wsX5_boot_r1 : List Cond := [Cond.fieldLink RX5 12 "FlashBoot" "flash" "LFlashBoot$Flash;", Cond.fieldLink RX5 49 "FlashBoot" "runs" "I", Cond.methodLink RX5 167 yX5_slotOnTrial, Cond.instanceMethod yX5_slotOnTrial, Cond.selects RX5 yX5_slotOnTrial yX5_slotOnTrial, Cond.initialized RX5, Cond.code yX5_slotOnTrial cX5_slotOnTrial 1 (some .int), Cond.fieldLink RX5 28 "FlashBoot" "lower" "LFlashBoot$Slot;", Cond.fieldLink RX5 32 "FlashBoot" "upper" "LFlashBoot$Slot;", Cond.methodLink RX5 200 yX5_isGood, Cond.instanceMethod yX5_isGood, Cond.selects RX5 yX5_isGood yX5_isGood, Cond.code yX5_isGood cX5_isGood 2 (some .boolean), Cond.methodLink RX5 223 yX5_counter, Cond.instanceMethod yX5_counter, Cond.selects RX5 yX5_counter yX5_counter, Cond.code yX5_counter cX5_counter 3 (some .int), Cond.methodLink RX5 189 yX0_at, Cond.instanceMethod yX0_at, Cond.selects RX0 yX0_at yX0_at, Cond.initialized RX0, Cond.code yX0_at cX0_at 2 (some .int), Cond.fieldLink RX0 11 "FlashBoot$Flash" "bytes" "[I", Cond.methodLink RX5 192 yJ6_bitCount_0f7a4]
def wsX5_boot_r2 : List Cond := [Cond.static yJ6_bitCount_0f7a4, Cond.initialized RJ6, Cond.code yJ6_bitCount_0f7a4 cJ6_bitCount_0f7a4 1 (some .int), Cond.constant RJ6 265 (1431655765), Cond.constant RJ6 266 (858993459), Cond.constant RJ6 267 (252645135), Cond.methodLink RX5 281 yX3_isGood, Cond.instanceMethod yX3_isGood, Cond.selects RX3 yX3_isGood yX3_isGood, Cond.initialized RX3, Cond.code yX3_isGood cX3_isGood 3 (some .boolean), Cond.fieldLink RX3 15 "FlashBoot$Slot" "start" "I", Cond.methodLink RX3 34 yX3_isWhole, Cond.instanceMethod yX3_isWhole, Cond.selects RX3 yX3_isWhole yX3_isWhole, Cond.code yX3_isWhole cX3_isWhole 2 (some .boolean), Cond.fieldLink RX3 18 "FlashBoot$Slot" "header" "I", Cond.methodLink RX3 21 yX0_at, Cond.methodLink RX3 37 yX3_length, Cond.instanceMethod yX3_length, Cond.selects RX3 yX3_length yX3_length, Cond.code yX3_length cX3_length 2 (some .int), Cond.static yX5_isLength, Cond.code yX5_isLength cX5_isLength 1 (some .boolean)]
def wsX5_boot_r3 : List Cond := [Cond.methodLink RX3 45 yX3_sequence, Cond.instanceMethod yX3_sequence, Cond.selects RX3 yX3_sequence yX3_sequence, Cond.code yX3_sequence cX3_sequence 2 (some .int), Cond.methodLink RX3 48 yX0_digestOf, Cond.instanceMethod yX0_digestOf, Cond.selects RX0 yX0_digestOf yX0_digestOf, Cond.code yX0_digestOf cX0_digestOf 5 (some .int), Cond.methodLink RX0 44 yX0_at, Cond.static yX5_digestByte, Cond.code yX5_digestByte cX5_digestByte 3 (some .int), Cond.constant RX5 293 (16777619), Cond.methodLink RX3 52 yX3_digest, Cond.instanceMethod yX3_digest, Cond.selects RX3 yX3_digest yX3_digest, Cond.code yX3_digest cX3_digest 2 (some .int), Cond.methodLink RX3 27 yX0_word, Cond.instanceMethod yX0_word, Cond.selects RX0 yX0_word yX0_word, Cond.code yX0_word cX0_word 4 (some .int), Cond.methodLink RX5 274 yX3_isOnTrial, Cond.instanceMethod yX3_isOnTrial, Cond.selects RX3 yX3_isOnTrial yX3_isOnTrial, Cond.code yX3_isOnTrial cX3_isOnTrial 2 (some .boolean)]
def wsX5_boot_r4 : List Cond := [Cond.methodLink RX3 30 yX3_isConfirmed, Cond.instanceMethod yX3_isConfirmed, Cond.selects RX3 yX3_isConfirmed yX3_isConfirmed, Cond.code yX3_isConfirmed cX3_isConfirmed 2 (some .boolean), Cond.methodLink RX5 277 yX5_later, Cond.instanceMethod yX5_later, Cond.selects RX5 yX5_later yX5_later, Cond.code yX5_later cX5_later 3 (some .int), Cond.methodLink RX5 180 yX3_sequence, Cond.methodLink RX5 170 yX5_slotConfirmed, Cond.instanceMethod yX5_slotConfirmed, Cond.selects RX5 yX5_slotConfirmed yX5_slotConfirmed, Cond.code yX5_slotConfirmed cX5_slotConfirmed 1 (some .int), Cond.methodLink RX5 176 yX3_isConfirmed, Cond.methodLink RX5 155 yX5_slot, Cond.instanceMethod yX5_slot, Cond.selects RX5 yX5_slot yX5_slot, Cond.code yX5_slot cX5_slot 2 (some (.object "FlashBoot$Slot")), Cond.methodLink RX5 173 yX3_useTrial, Cond.instanceMethod yX3_useTrial, Cond.selects RX3 yX3_useTrial yX3_useTrial, Cond.code yX3_useTrial cX3_useTrial 2 none, Cond.methodLink RX3 70 yX0_programLowestBit, Cond.instanceMethod yX0_programLowestBit]
def wsX5_boot_r5 : List Cond := [Cond.selects RX0 yX0_programLowestBit yX0_programLowestBit, Cond.code yX0_programLowestBit cX0_programLowestBit 3 none, Cond.methodLink RX0 36 yX0_program, Cond.instanceMethod yX0_program, Cond.selects RX0 yX0_program yX0_program, Cond.code yX0_program cX0_program 4 none, Cond.fieldLink RX0 15 "FlashBoot$Flash" "power" "Z", Cond.fieldLink RX0 29 "FlashBoot$Flash" "crashMask" "I", Cond.methodLink RX0 32 yX0_tearNextAct, Cond.instanceMethod yX0_tearNextAct, Cond.selects RX0 yX0_tearNextAct yX0_tearNextAct, Cond.code yX0_tearNextAct cX0_tearNextAct 1 (some .boolean), Cond.fieldLink RX0 19 "FlashBoot$Flash" "actsDone" "I", Cond.fieldLink RX0 23 "FlashBoot$Flash" "crashIsSet" "Z", Cond.fieldLink RX0 26 "FlashBoot$Flash" "actsToCrash" "I", Cond.methodLink RX5 110 yX5_unlessTorn, Cond.instanceMethod yX5_unlessTorn, Cond.selects RX5 yX5_unlessTorn yX5_unlessTorn, Cond.code yX5_unlessTorn cX5_unlessTorn 2 (some .int)]
def wsX5_boot : List Cond := .code yX5_boot cX5_boot 1 (some .int) :: ((wsX5_boot_r1 ++ (wsX5_boot_r2 ++ (wsX5_boot_r3 ++ (wsX5_boot_r4 ++ wsX5_boot_r5)))) ++ wsX50 ++ wsX00 ++ wsX30)
def wsX5_clearCounterBit_r1 : List Cond := [Cond.fieldLink RX5 12 "FlashBoot" "flash" "LFlashBoot$Flash;", Cond.methodLink RX5 189 yX0_at, Cond.instanceMethod yX0_at, Cond.selects RX0 yX0_at yX0_at, Cond.initialized RX0, Cond.code yX0_at cX0_at 2 (some .int), Cond.fieldLink RX0 11 "FlashBoot$Flash" "bytes" "[I", Cond.methodLink RX5 287 yX0_programLowestBit, Cond.instanceMethod yX0_programLowestBit, Cond.selects RX0 yX0_programLowestBit yX0_programLowestBit, Cond.code yX0_programLowestBit cX0_programLowestBit 3 none, Cond.methodLink RX0 44 yX0_at, Cond.methodLink RX0 36 yX0_program, Cond.instanceMethod yX0_program, Cond.selects RX0 yX0_program yX0_program, Cond.code yX0_program cX0_program 4 none, Cond.fieldLink RX0 15 "FlashBoot$Flash" "power" "Z", Cond.fieldLink RX0 29 "FlashBoot$Flash" "crashMask" "I", Cond.methodLink RX0 32 yX0_tearNextAct, Cond.instanceMethod yX0_tearNextAct, Cond.selects RX0 yX0_tearNextAct yX0_tearNextAct, Cond.code yX0_tearNextAct cX0_tearNextAct 1 (some .boolean), Cond.fieldLink RX0 19 "FlashBoot$Flash" "actsDone" "I", Cond.fieldLink RX0 23 "FlashBoot$Flash" "crashIsSet" "Z"]
def wsX5_clearCounterBit_r2 : List Cond := [Cond.fieldLink RX0 26 "FlashBoot$Flash" "actsToCrash" "I"]
def wsX5_clearCounterBit : List Cond := .code yX5_clearCounterBit cX5_clearCounterBit 2 none :: ((wsX5_clearCounterBit_r1 ++ wsX5_clearCounterBit_r2) ++ wsX50 ++ wsX00)
def wsX5_raiseCounter_r1 : List Cond := [Cond.methodLink RX5 223 yX5_counter, Cond.instanceMethod yX5_counter, Cond.selects RX5 yX5_counter yX5_counter, Cond.initialized RX5, Cond.code yX5_counter cX5_counter 3 (some .int), Cond.fieldLink RX5 12 "FlashBoot" "flash" "LFlashBoot$Flash;", Cond.methodLink RX5 189 yX0_at, Cond.instanceMethod yX0_at, Cond.selects RX0 yX0_at yX0_at, Cond.initialized RX0, Cond.code yX0_at cX0_at 2 (some .int), Cond.fieldLink RX0 11 "FlashBoot$Flash" "bytes" "[I", Cond.methodLink RX5 192 yJ6_bitCount_0f7a4, Cond.static yJ6_bitCount_0f7a4, Cond.initialized RJ6, Cond.code yJ6_bitCount_0f7a4 cJ6_bitCount_0f7a4 1 (some .int), Cond.constant RJ6 265 (1431655765), Cond.constant RJ6 266 (858993459), Cond.constant RJ6 267 (252645135), Cond.methodLink RX5 284 yX5_clearCounterBit, Cond.instanceMethod yX5_clearCounterBit, Cond.selects RX5 yX5_clearCounterBit yX5_clearCounterBit, Cond.code yX5_clearCounterBit cX5_clearCounterBit 2 none, Cond.methodLink RX5 287 yX0_programLowestBit]
def wsX5_raiseCounter_r2 : List Cond := [Cond.instanceMethod yX0_programLowestBit, Cond.selects RX0 yX0_programLowestBit yX0_programLowestBit, Cond.code yX0_programLowestBit cX0_programLowestBit 3 none, Cond.methodLink RX0 44 yX0_at, Cond.methodLink RX0 36 yX0_program, Cond.instanceMethod yX0_program, Cond.selects RX0 yX0_program yX0_program, Cond.code yX0_program cX0_program 4 none, Cond.fieldLink RX0 15 "FlashBoot$Flash" "power" "Z", Cond.fieldLink RX0 29 "FlashBoot$Flash" "crashMask" "I", Cond.methodLink RX0 32 yX0_tearNextAct, Cond.instanceMethod yX0_tearNextAct, Cond.selects RX0 yX0_tearNextAct yX0_tearNextAct, Cond.code yX0_tearNextAct cX0_tearNextAct 1 (some .boolean), Cond.fieldLink RX0 19 "FlashBoot$Flash" "actsDone" "I", Cond.fieldLink RX0 23 "FlashBoot$Flash" "crashIsSet" "Z", Cond.fieldLink RX0 26 "FlashBoot$Flash" "actsToCrash" "I"]
def wsX5_raiseCounter : List Cond := .code yX5_raiseCounter cX5_raiseCounter 3 none :: ((wsX5_raiseCounter_r1 ++ wsX5_raiseCounter_r2) ++ wsX50 ++ wsX00)
def wsX5_confirm_r1 : List Cond := [Cond.fieldLink RX5 12 "FlashBoot" "flash" "LFlashBoot$Flash;", Cond.fieldLink RX5 49 "FlashBoot" "runs" "I", Cond.methodLink RX5 155 yX5_slot, Cond.instanceMethod yX5_slot, Cond.selects RX5 yX5_slot yX5_slot, Cond.initialized RX5, Cond.code yX5_slot cX5_slot 2 (some (.object "FlashBoot$Slot")), Cond.fieldLink RX5 28 "FlashBoot" "lower" "LFlashBoot$Slot;", Cond.fieldLink RX5 32 "FlashBoot" "upper" "LFlashBoot$Slot;", Cond.methodLink RX5 176 yX3_isConfirmed, Cond.instanceMethod yX3_isConfirmed, Cond.selects RX3 yX3_isConfirmed yX3_isConfirmed, Cond.initialized RX3, Cond.code yX3_isConfirmed cX3_isConfirmed 2 (some .boolean), Cond.fieldLink RX3 18 "FlashBoot$Slot" "header" "I", Cond.methodLink RX3 21 yX0_at, Cond.instanceMethod yX0_at, Cond.selects RX0 yX0_at yX0_at, Cond.initialized RX0, Cond.code yX0_at cX0_at 2 (some .int), Cond.fieldLink RX0 11 "FlashBoot$Flash" "bytes" "[I", Cond.methodLink RX5 104 yX3_programConfirmed, Cond.instanceMethod yX3_programConfirmed, Cond.selects RX3 yX3_programConfirmed yX3_programConfirmed]
def wsX5_confirm_r2 : List Cond := [Cond.code yX3_programConfirmed cX3_programConfirmed 2 none, Cond.methodLink RX3 63 yX0_program, Cond.instanceMethod yX0_program, Cond.selects RX0 yX0_program yX0_program, Cond.code yX0_program cX0_program 4 none, Cond.fieldLink RX0 15 "FlashBoot$Flash" "power" "Z", Cond.fieldLink RX0 29 "FlashBoot$Flash" "crashMask" "I", Cond.methodLink RX0 32 yX0_tearNextAct, Cond.instanceMethod yX0_tearNextAct, Cond.selects RX0 yX0_tearNextAct yX0_tearNextAct, Cond.code yX0_tearNextAct cX0_tearNextAct 1 (some .boolean), Cond.fieldLink RX0 19 "FlashBoot$Flash" "actsDone" "I", Cond.fieldLink RX0 23 "FlashBoot$Flash" "crashIsSet" "Z", Cond.fieldLink RX0 26 "FlashBoot$Flash" "actsToCrash" "I", Cond.methodLink RX5 180 yX3_sequence, Cond.instanceMethod yX3_sequence, Cond.selects RX3 yX3_sequence yX3_sequence, Cond.code yX3_sequence cX3_sequence 2 (some .int), Cond.methodLink RX5 183 yX5_raiseCounter, Cond.instanceMethod yX5_raiseCounter, Cond.selects RX5 yX5_raiseCounter yX5_raiseCounter, Cond.code yX5_raiseCounter cX5_raiseCounter 3 none, Cond.methodLink RX5 223 yX5_counter, Cond.instanceMethod yX5_counter]
def wsX5_confirm_r3 : List Cond := [Cond.selects RX5 yX5_counter yX5_counter, Cond.code yX5_counter cX5_counter 3 (some .int), Cond.methodLink RX5 189 yX0_at, Cond.methodLink RX5 192 yJ6_bitCount_0f7a4, Cond.static yJ6_bitCount_0f7a4, Cond.initialized RJ6, Cond.code yJ6_bitCount_0f7a4 cJ6_bitCount_0f7a4 1 (some .int), Cond.constant RJ6 265 (1431655765), Cond.constant RJ6 266 (858993459), Cond.constant RJ6 267 (252645135), Cond.methodLink RX5 284 yX5_clearCounterBit, Cond.instanceMethod yX5_clearCounterBit, Cond.selects RX5 yX5_clearCounterBit yX5_clearCounterBit, Cond.code yX5_clearCounterBit cX5_clearCounterBit 2 none, Cond.methodLink RX5 287 yX0_programLowestBit, Cond.instanceMethod yX0_programLowestBit, Cond.selects RX0 yX0_programLowestBit yX0_programLowestBit, Cond.code yX0_programLowestBit cX0_programLowestBit 3 none, Cond.methodLink RX0 44 yX0_at, Cond.methodLink RX0 36 yX0_program, Cond.methodLink RX5 110 yX5_unlessTorn, Cond.instanceMethod yX5_unlessTorn, Cond.selects RX5 yX5_unlessTorn yX5_unlessTorn, Cond.code yX5_unlessTorn cX5_unlessTorn 2 (some .int)]
def wsX5_confirm : List Cond := .code yX5_confirm cX5_confirm 2 (some .int) :: ((wsX5_confirm_r1 ++ (wsX5_confirm_r2 ++ wsX5_confirm_r3)) ++ wsX50 ++ wsX00 ++ wsX30)
def wsX5_crash : List Cond := .code yX5_crash cX5_crash 3 (some .int) :: ([.fieldLink RX5 12 "FlashBoot" "flash" "LFlashBoot$Flash;", .methodLink RX5 186 yX0_setCrash, .instanceMethod yX0_setCrash, .selects RX0 yX0_setCrash yX0_setCrash, .initialized RX0, .code yX0_setCrash cX0_setCrash 3 none, .fieldLink RX0 23 "FlashBoot$Flash" "crashIsSet" "Z", .fieldLink RX0 26 "FlashBoot$Flash" "actsToCrash" "I", .fieldLink RX0 29 "FlashBoot$Flash" "crashMask" "I"] ++ wsX50 ++ wsX00)
def wsX5_running : List Cond := .code yX5_running cX5_running 1 (some .int) :: ([.fieldLink RX5 49 "FlashBoot" "runs" "I"] ++ wsX50)
def wsX5_acts : List Cond := .code yX5_acts cX5_acts 1 (some .int) :: ([.fieldLink RX5 12 "FlashBoot" "flash" "LFlashBoot$Flash;"] ++ wsX50 ++ wsX00)
def wsX5_byteOf : List Cond := .code yX5_byteOf cX5_byteOf 2 (some .int) :: ([.fieldLink RX5 12 "FlashBoot" "flash" "LFlashBoot$Flash;", .methodLink RX5 189 yX0_at, .instanceMethod yX0_at, .selects RX0 yX0_at yX0_at, .initialized RX0, .code yX0_at cX0_at 2 (some .int), .fieldLink RX0 11 "FlashBoot$Flash" "bytes" "[I"] ++ wsX50 ++ wsX00)
def wsX5_good_r1 : List Cond := [Cond.methodLink RX5 155 yX5_slot, Cond.instanceMethod yX5_slot, Cond.selects RX5 yX5_slot yX5_slot, Cond.initialized RX5, Cond.code yX5_slot cX5_slot 2 (some (.object "FlashBoot$Slot")), Cond.fieldLink RX5 28 "FlashBoot" "lower" "LFlashBoot$Slot;", Cond.fieldLink RX5 32 "FlashBoot" "upper" "LFlashBoot$Slot;", Cond.methodLink RX5 200 yX5_isGood, Cond.instanceMethod yX5_isGood, Cond.selects RX5 yX5_isGood yX5_isGood, Cond.code yX5_isGood cX5_isGood 2 (some .boolean), Cond.fieldLink RX5 12 "FlashBoot" "flash" "LFlashBoot$Flash;", Cond.methodLink RX5 223 yX5_counter, Cond.instanceMethod yX5_counter, Cond.selects RX5 yX5_counter yX5_counter, Cond.code yX5_counter cX5_counter 3 (some .int), Cond.methodLink RX5 189 yX0_at, Cond.instanceMethod yX0_at, Cond.selects RX0 yX0_at yX0_at, Cond.initialized RX0, Cond.code yX0_at cX0_at 2 (some .int), Cond.fieldLink RX0 11 "FlashBoot$Flash" "bytes" "[I", Cond.methodLink RX5 192 yJ6_bitCount_0f7a4, Cond.static yJ6_bitCount_0f7a4]
def wsX5_good_r2 : List Cond := [Cond.initialized RJ6, Cond.code yJ6_bitCount_0f7a4 cJ6_bitCount_0f7a4 1 (some .int), Cond.constant RJ6 265 (1431655765), Cond.constant RJ6 266 (858993459), Cond.constant RJ6 267 (252645135), Cond.methodLink RX5 281 yX3_isGood, Cond.instanceMethod yX3_isGood, Cond.selects RX3 yX3_isGood yX3_isGood, Cond.initialized RX3, Cond.code yX3_isGood cX3_isGood 3 (some .boolean), Cond.fieldLink RX3 15 "FlashBoot$Slot" "start" "I", Cond.methodLink RX3 34 yX3_isWhole, Cond.instanceMethod yX3_isWhole, Cond.selects RX3 yX3_isWhole yX3_isWhole, Cond.code yX3_isWhole cX3_isWhole 2 (some .boolean), Cond.fieldLink RX3 18 "FlashBoot$Slot" "header" "I", Cond.methodLink RX3 21 yX0_at, Cond.methodLink RX3 37 yX3_length, Cond.instanceMethod yX3_length, Cond.selects RX3 yX3_length yX3_length, Cond.code yX3_length cX3_length 2 (some .int), Cond.static yX5_isLength, Cond.code yX5_isLength cX5_isLength 1 (some .boolean), Cond.methodLink RX3 45 yX3_sequence]
def wsX5_good_r3 : List Cond := [Cond.instanceMethod yX3_sequence, Cond.selects RX3 yX3_sequence yX3_sequence, Cond.code yX3_sequence cX3_sequence 2 (some .int), Cond.methodLink RX3 48 yX0_digestOf, Cond.instanceMethod yX0_digestOf, Cond.selects RX0 yX0_digestOf yX0_digestOf, Cond.code yX0_digestOf cX0_digestOf 5 (some .int), Cond.methodLink RX0 44 yX0_at, Cond.static yX5_digestByte, Cond.code yX5_digestByte cX5_digestByte 3 (some .int), Cond.constant RX5 293 (16777619), Cond.methodLink RX3 52 yX3_digest, Cond.instanceMethod yX3_digest, Cond.selects RX3 yX3_digest yX3_digest, Cond.code yX3_digest cX3_digest 2 (some .int), Cond.methodLink RX3 27 yX0_word, Cond.instanceMethod yX0_word, Cond.selects RX0 yX0_word yX0_word, Cond.code yX0_word cX0_word 4 (some .int)]
def wsX5_good : List Cond := .code yX5_good cX5_good 2 (some .int) :: ((wsX5_good_r1 ++ (wsX5_good_r2 ++ wsX5_good_r3)) ++ wsX50 ++ wsX00 ++ wsX30)
def wsX6_init : List Cond := .code yX6_init cX6_init 5 none :: ([.methodLink RX6 1 objectInit, .instanceMethod objectInit, .code objectInit ⟨#[0xb1]⟩ 1 none, .arrayClass .int, .fieldLink RX6 7 "FlashBootModel" "flash" "[I", .fieldLink RX6 13 "FlashBootModel" "keys" "[I", .fieldLink RX6 16 "FlashBootModel" "tape" "[I", .fieldLink RX6 19 "FlashBootModel" "power" "Z", .fieldLink RX6 23 "FlashBootModel" "runs" "I", .fieldLink RX6 27 "FlashBootModel" "left" "I", .fieldLink RX6 30 "FlashBootModel" "image" "[I", .fieldLink RX6 33 "FlashBootModel" "vendor" "I"] ++ wsX60)
def wsX6_isWhole : List Cond := .code yX6_isWhole cX6_isWhole 1 (some .boolean) :: ([.fieldLink RX6 39 "FlashBootModel" "acts" "I", .fieldLink RX6 27 "FlashBootModel" "left" "I", .fieldLink RX6 19 "FlashBootModel" "power" "Z", .fieldLink RX6 23 "FlashBootModel" "runs" "I"] ++ wsX60)
def wsX6_erase : List Cond := .code yX6_erase cX6_erase 4 none :: ([.fieldLink RX6 19 "FlashBootModel" "power" "Z", .fieldLink RX6 46 "FlashBootModel" "mask" "I", .fieldLink RX6 7 "FlashBootModel" "flash" "[I", .methodLink RX6 42 yX6_isWhole, .instanceMethod yX6_isWhole, .selects RX6 yX6_isWhole yX6_isWhole, .initialized RX6, .code yX6_isWhole cX6_isWhole 1 (some .boolean), .fieldLink RX6 39 "FlashBootModel" "acts" "I", .fieldLink RX6 27 "FlashBootModel" "left" "I", .fieldLink RX6 23 "FlashBootModel" "runs" "I"] ++ wsX60)
def wsX6_program : List Cond := .code yX6_program cX6_program 3 none :: ([.fieldLink RX6 19 "FlashBootModel" "power" "Z", .fieldLink RX6 7 "FlashBootModel" "flash" "[I", .fieldLink RX6 46 "FlashBootModel" "mask" "I", .methodLink RX6 42 yX6_isWhole, .instanceMethod yX6_isWhole, .selects RX6 yX6_isWhole yX6_isWhole, .initialized RX6, .code yX6_isWhole cX6_isWhole 1 (some .boolean), .fieldLink RX6 39 "FlashBootModel" "acts" "I", .fieldLink RX6 27 "FlashBootModel" "left" "I", .fieldLink RX6 23 "FlashBootModel" "runs" "I"] ++ wsX60)
def wsX6_digested : List Cond := .code yX6_digested cX6_digested 3 (some .int) :: ([.constant RX6 49 (16777619)])
def wsX6_digestOf : List Cond := .code yX6_digestOf cX6_digestOf 5 (some .int) :: ([.fieldLink RX6 7 "FlashBootModel" "flash" "[I", .methodLink RX6 50 yX6_digested, .static yX6_digested, .initialized RX6, .code yX6_digested cX6_digested 3 (some .int), .constant RX6 49 (16777619)] ++ wsX60)
def wsX6_four : List Cond := .code yX6_four cX6_four 2 (some .int) :: ([.fieldLink RX6 7 "FlashBootModel" "flash" "[I"] ++ wsX60)
def wsX6_part : List Cond := .code yX6_part cX6_part 2 (some .int) :: ([])
def wsX6_imageAt : List Cond := .code yX6_imageAt cX6_imageAt 1 (some .int) :: ([])
def wsX6_headerAt : List Cond := .code yX6_headerAt cX6_headerAt 1 (some .int) :: ([])
def wsX6_ones : List Cond := .code yX6_ones cX6_ones 3 (some .int) :: ([])
def wsX6_counterValue : List Cond := .code yX6_counterValue cX6_counterValue 3 (some .int) :: ([.fieldLink RX6 7 "FlashBootModel" "flash" "[I", .methodLink RX6 54 yX6_ones, .static yX6_ones, .initialized RX6, .code yX6_ones cX6_ones 3 (some .int)] ++ wsX60)
def wsX6_sequenceOf : List Cond := .code yX6_sequenceOf cX6_sequenceOf 2 (some .int) :: ([.fieldLink RX6 7 "FlashBootModel" "flash" "[I", .methodLink RX6 58 yX6_headerAt, .static yX6_headerAt, .initialized RX6, .code yX6_headerAt cX6_headerAt 1 (some .int)] ++ wsX60)
def wsX6_isGood_r1 : List Cond := [Cond.fieldLink RX6 7 "FlashBootModel" "flash" "[I", Cond.methodLink RX6 58 yX6_headerAt, Cond.static yX6_headerAt, Cond.initialized RX6, Cond.code yX6_headerAt cX6_headerAt 1 (some .int), Cond.methodLink RX6 61 yX6_imageAt, Cond.static yX6_imageAt, Cond.code yX6_imageAt cX6_imageAt 1 (some .int), Cond.methodLink RX6 64 yX6_digestOf, Cond.instanceMethod yX6_digestOf, Cond.selects RX6 yX6_digestOf yX6_digestOf, Cond.code yX6_digestOf cX6_digestOf 5 (some .int), Cond.methodLink RX6 50 yX6_digested, Cond.static yX6_digested, Cond.code yX6_digested cX6_digested 3 (some .int), Cond.constant RX6 49 (16777619), Cond.methodLink RX6 67 yX6_four, Cond.instanceMethod yX6_four, Cond.selects RX6 yX6_four yX6_four, Cond.code yX6_four cX6_four 2 (some .int), Cond.methodLink RX6 70 yX6_counterValue, Cond.instanceMethod yX6_counterValue, Cond.selects RX6 yX6_counterValue yX6_counterValue, Cond.code yX6_counterValue cX6_counterValue 3 (some .int)]
def wsX6_isGood_r2 : List Cond := [Cond.methodLink RX6 54 yX6_ones, Cond.static yX6_ones, Cond.code yX6_ones cX6_ones 3 (some .int)]
def wsX6_isGood : List Cond := .code yX6_isGood cX6_isGood 4 (some .boolean) :: ((wsX6_isGood_r1 ++ wsX6_isGood_r2) ++ wsX60)
def wsX6_isConfirmed : List Cond := .code yX6_isConfirmed cX6_isConfirmed 2 (some .boolean) :: ([.fieldLink RX6 7 "FlashBootModel" "flash" "[I", .methodLink RX6 58 yX6_headerAt, .static yX6_headerAt, .initialized RX6, .code yX6_headerAt cX6_headerAt 1 (some .int)] ++ wsX60)
def wsX6_lessOne : List Cond := .code yX6_lessOne cX6_lessOne 2 (some .int) :: ([])
def wsX6_type : List Cond := .code yX6_type cX6_type 5 (some .int) :: ([.fieldLink RX6 36 "FlashBootModel" "thrown" "I", .fieldLink RX6 74 "FlashBootModel" "length" "I", .fieldLink RX6 16 "FlashBootModel" "tape" "[I", .constantLong RX6 77 (255)] ++ wsX60)
def wsX6_writeHeader : List Cond := .code yX6_writeHeader cX6_writeHeader 7 none :: ([.methodLink RX6 58 yX6_headerAt, .static yX6_headerAt, .initialized RX6, .code yX6_headerAt cX6_headerAt 1 (some .int), .methodLink RX6 83 yX6_program, .instanceMethod yX6_program, .selects RX6 yX6_program yX6_program, .code yX6_program cX6_program 3 none, .fieldLink RX6 19 "FlashBootModel" "power" "Z", .fieldLink RX6 7 "FlashBootModel" "flash" "[I", .fieldLink RX6 46 "FlashBootModel" "mask" "I", .methodLink RX6 42 yX6_isWhole, .instanceMethod yX6_isWhole, .selects RX6 yX6_isWhole yX6_isWhole, .code yX6_isWhole cX6_isWhole 1 (some .boolean), .fieldLink RX6 39 "FlashBootModel" "acts" "I", .fieldLink RX6 27 "FlashBootModel" "left" "I", .fieldLink RX6 23 "FlashBootModel" "runs" "I", .methodLink RX6 91 yX6_part, .static yX6_part, .code yX6_part cX6_part 2 (some .int)] ++ wsX60)
def wsX6_factory_r1 : List Cond := [Cond.fieldLink RX6 36 "FlashBootModel" "thrown" "I", Cond.fieldLink RX6 19 "FlashBootModel" "power" "Z", Cond.fieldLink RX6 74 "FlashBootModel" "length" "I", Cond.fieldLink RX6 23 "FlashBootModel" "runs" "I", Cond.fieldLink RX6 16 "FlashBootModel" "tape" "[I", Cond.methodLink RX6 79 yX6_erase, Cond.instanceMethod yX6_erase, Cond.selects RX6 yX6_erase yX6_erase, Cond.initialized RX6, Cond.code yX6_erase cX6_erase 4 none, Cond.fieldLink RX6 46 "FlashBootModel" "mask" "I", Cond.fieldLink RX6 7 "FlashBootModel" "flash" "[I", Cond.methodLink RX6 42 yX6_isWhole, Cond.instanceMethod yX6_isWhole, Cond.selects RX6 yX6_isWhole yX6_isWhole, Cond.code yX6_isWhole cX6_isWhole 1 (some .boolean), Cond.fieldLink RX6 39 "FlashBootModel" "acts" "I", Cond.fieldLink RX6 27 "FlashBootModel" "left" "I", Cond.methodLink RX6 83 yX6_program, Cond.instanceMethod yX6_program, Cond.selects RX6 yX6_program yX6_program, Cond.code yX6_program cX6_program 3 none, Cond.methodLink RX6 50 yX6_digested, Cond.static yX6_digested]
def wsX6_factory_r2 : List Cond := [Cond.code yX6_digested cX6_digested 3 (some .int), Cond.constant RX6 49 (16777619), Cond.methodLink RX6 87 yX6_writeHeader, Cond.instanceMethod yX6_writeHeader, Cond.selects RX6 yX6_writeHeader yX6_writeHeader, Cond.code yX6_writeHeader cX6_writeHeader 7 none, Cond.methodLink RX6 58 yX6_headerAt, Cond.static yX6_headerAt, Cond.code yX6_headerAt cX6_headerAt 1 (some .int), Cond.methodLink RX6 91 yX6_part, Cond.static yX6_part, Cond.code yX6_part cX6_part 2 (some .int)]
def wsX6_factory : List Cond := .code yX6_factory cX6_factory 5 (some .int) :: ((wsX6_factory_r1 ++ wsX6_factory_r2) ++ wsX60)
def wsX6_manifestByte : List Cond := .code yX6_manifestByte cX6_manifestByte 3 (some .int) :: ([.fieldLink RX6 16 "FlashBootModel" "tape" "[I", .fieldLink RX6 7 "FlashBootModel" "flash" "[I"] ++ wsX60)
def wsX6_manifestFour : List Cond := .code yX6_manifestFour cX6_manifestFour 5 (some .int) :: ([.methodLink RX6 94 yX6_manifestByte, .instanceMethod yX6_manifestByte, .selects RX6 yX6_manifestByte yX6_manifestByte, .initialized RX6, .code yX6_manifestByte cX6_manifestByte 3 (some .int), .fieldLink RX6 16 "FlashBootModel" "tape" "[I", .fieldLink RX6 7 "FlashBootModel" "flash" "[I"] ++ wsX60)
def wsX6_isIn : List Cond := .code yX6_isIn cX6_isIn 3 (some .boolean) :: ([])
def wsX6_isInRange : List Cond := .code yX6_isInRange cX6_isInRange 2 (some .boolean) :: ([.methodLink RX6 94 yX6_manifestByte, .instanceMethod yX6_manifestByte, .selects RX6 yX6_manifestByte yX6_manifestByte, .initialized RX6, .code yX6_manifestByte cX6_manifestByte 3 (some .int), .fieldLink RX6 16 "FlashBootModel" "tape" "[I", .fieldLink RX6 7 "FlashBootModel" "flash" "[I", .methodLink RX6 98 yX6_isIn, .static yX6_isIn, .code yX6_isIn cX6_isIn 3 (some .boolean)] ++ wsX60)
def wsX6_isTagged : List Cond := .code yX6_isTagged cX6_isTagged 4 (some .boolean) :: ([.fieldLink RX6 13 "FlashBootModel" "keys" "[I", .fieldLink RX6 33 "FlashBootModel" "vendor" "I", .methodLink RX6 50 yX6_digested, .static yX6_digested, .initialized RX6, .code yX6_digested cX6_digested 3 (some .int), .constant RX6 49 (16777619), .methodLink RX6 94 yX6_manifestByte, .instanceMethod yX6_manifestByte, .selects RX6 yX6_manifestByte yX6_manifestByte, .code yX6_manifestByte cX6_manifestByte 3 (some .int), .fieldLink RX6 16 "FlashBootModel" "tape" "[I", .fieldLink RX6 7 "FlashBootModel" "flash" "[I", .methodLink RX6 102 yX6_manifestFour, .instanceMethod yX6_manifestFour, .selects RX6 yX6_manifestFour yX6_manifestFour, .code yX6_manifestFour cX6_manifestFour 5 (some .int)] ++ wsX60)
def wsX6_isRight_r1 : List Cond := [Cond.methodLink RX6 105 yX6_isInRange, Cond.instanceMethod yX6_isInRange, Cond.selects RX6 yX6_isInRange yX6_isInRange, Cond.initialized RX6, Cond.code yX6_isInRange cX6_isInRange 2 (some .boolean), Cond.methodLink RX6 94 yX6_manifestByte, Cond.instanceMethod yX6_manifestByte, Cond.selects RX6 yX6_manifestByte yX6_manifestByte, Cond.code yX6_manifestByte cX6_manifestByte 3 (some .int), Cond.fieldLink RX6 16 "FlashBootModel" "tape" "[I", Cond.fieldLink RX6 7 "FlashBootModel" "flash" "[I", Cond.methodLink RX6 98 yX6_isIn, Cond.static yX6_isIn, Cond.code yX6_isIn cX6_isIn 3 (some .boolean), Cond.methodLink RX6 109 yX6_isTagged, Cond.instanceMethod yX6_isTagged, Cond.selects RX6 yX6_isTagged yX6_isTagged, Cond.code yX6_isTagged cX6_isTagged 4 (some .boolean), Cond.fieldLink RX6 13 "FlashBootModel" "keys" "[I", Cond.fieldLink RX6 33 "FlashBootModel" "vendor" "I", Cond.methodLink RX6 50 yX6_digested, Cond.static yX6_digested, Cond.code yX6_digested cX6_digested 3 (some .int), Cond.constant RX6 49 (16777619)]
def wsX6_isRight_r2 : List Cond := [Cond.methodLink RX6 102 yX6_manifestFour, Cond.instanceMethod yX6_manifestFour, Cond.selects RX6 yX6_manifestFour yX6_manifestFour, Cond.code yX6_manifestFour cX6_manifestFour 5 (some .int)]
def wsX6_isRight : List Cond := .code yX6_isRight cX6_isRight 1 (some .boolean) :: ((wsX6_isRight_r1 ++ wsX6_isRight_r2) ++ wsX60)
def wsX6_isOld : List Cond := .code yX6_isOld cX6_isOld 3 (some .boolean) :: ([.fieldLink RX6 23 "FlashBootModel" "runs" "I", .methodLink RX6 94 yX6_manifestByte, .instanceMethod yX6_manifestByte, .selects RX6 yX6_manifestByte yX6_manifestByte, .initialized RX6, .code yX6_manifestByte cX6_manifestByte 3 (some .int), .fieldLink RX6 16 "FlashBootModel" "tape" "[I", .fieldLink RX6 7 "FlashBootModel" "flash" "[I", .methodLink RX6 70 yX6_counterValue, .instanceMethod yX6_counterValue, .selects RX6 yX6_counterValue yX6_counterValue, .code yX6_counterValue cX6_counterValue 3 (some .int), .methodLink RX6 54 yX6_ones, .static yX6_ones, .code yX6_ones cX6_ones 3 (some .int), .methodLink RX6 112 yX6_sequenceOf, .instanceMethod yX6_sequenceOf, .selects RX6 yX6_sequenceOf yX6_sequenceOf, .code yX6_sequenceOf cX6_sequenceOf 2 (some .int), .methodLink RX6 58 yX6_headerAt, .static yX6_headerAt, .code yX6_headerAt cX6_headerAt 1 (some .int)] ++ wsX60)
def wsX6_manifest_r1 : List Cond := [Cond.fieldLink RX6 36 "FlashBootModel" "thrown" "I", Cond.fieldLink RX6 19 "FlashBootModel" "power" "Z", Cond.fieldLink RX6 74 "FlashBootModel" "length" "I", Cond.fieldLink RX6 7 "FlashBootModel" "flash" "[I", Cond.fieldLink RX6 16 "FlashBootModel" "tape" "[I", Cond.methodLink RX6 105 yX6_isInRange, Cond.instanceMethod yX6_isInRange, Cond.selects RX6 yX6_isInRange yX6_isInRange, Cond.initialized RX6, Cond.code yX6_isInRange cX6_isInRange 2 (some .boolean), Cond.methodLink RX6 94 yX6_manifestByte, Cond.instanceMethod yX6_manifestByte, Cond.selects RX6 yX6_manifestByte yX6_manifestByte, Cond.code yX6_manifestByte cX6_manifestByte 3 (some .int), Cond.methodLink RX6 98 yX6_isIn, Cond.static yX6_isIn, Cond.code yX6_isIn cX6_isIn 3 (some .boolean), Cond.methodLink RX6 109 yX6_isTagged, Cond.instanceMethod yX6_isTagged, Cond.selects RX6 yX6_isTagged yX6_isTagged, Cond.code yX6_isTagged cX6_isTagged 4 (some .boolean), Cond.fieldLink RX6 13 "FlashBootModel" "keys" "[I", Cond.fieldLink RX6 33 "FlashBootModel" "vendor" "I", Cond.methodLink RX6 50 yX6_digested]
def wsX6_manifest_r2 : List Cond := [Cond.static yX6_digested, Cond.code yX6_digested cX6_digested 3 (some .int), Cond.constant RX6 49 (16777619), Cond.methodLink RX6 102 yX6_manifestFour, Cond.instanceMethod yX6_manifestFour, Cond.selects RX6 yX6_manifestFour yX6_manifestFour, Cond.code yX6_manifestFour cX6_manifestFour 5 (some .int), Cond.methodLink RX6 115 yX6_isOld, Cond.instanceMethod yX6_isOld, Cond.selects RX6 yX6_isOld yX6_isOld, Cond.code yX6_isOld cX6_isOld 3 (some .boolean), Cond.fieldLink RX6 23 "FlashBootModel" "runs" "I", Cond.methodLink RX6 70 yX6_counterValue, Cond.instanceMethod yX6_counterValue, Cond.selects RX6 yX6_counterValue yX6_counterValue, Cond.code yX6_counterValue cX6_counterValue 3 (some .int), Cond.methodLink RX6 54 yX6_ones, Cond.static yX6_ones, Cond.code yX6_ones cX6_ones 3 (some .int), Cond.methodLink RX6 112 yX6_sequenceOf, Cond.instanceMethod yX6_sequenceOf, Cond.selects RX6 yX6_sequenceOf yX6_sequenceOf, Cond.code yX6_sequenceOf cX6_sequenceOf 2 (some .int), Cond.methodLink RX6 58 yX6_headerAt]
def wsX6_manifest_r3 : List Cond := [Cond.static yX6_headerAt, Cond.code yX6_headerAt cX6_headerAt 1 (some .int), Cond.methodLink RX6 79 yX6_erase, Cond.instanceMethod yX6_erase, Cond.selects RX6 yX6_erase yX6_erase, Cond.code yX6_erase cX6_erase 4 none, Cond.fieldLink RX6 46 "FlashBootModel" "mask" "I", Cond.methodLink RX6 42 yX6_isWhole, Cond.instanceMethod yX6_isWhole, Cond.selects RX6 yX6_isWhole yX6_isWhole, Cond.code yX6_isWhole cX6_isWhole 1 (some .boolean), Cond.fieldLink RX6 39 "FlashBootModel" "acts" "I", Cond.fieldLink RX6 27 "FlashBootModel" "left" "I", Cond.methodLink RX6 83 yX6_program, Cond.instanceMethod yX6_program, Cond.selects RX6 yX6_program yX6_program, Cond.code yX6_program cX6_program 3 none]
def wsX6_manifest : List Cond := .code yX6_manifest cX6_manifest 4 (some .int) :: ((wsX6_manifest_r1 ++ (wsX6_manifest_r2 ++ wsX6_manifest_r3)) ++ wsX60)
def wsX6_blocks : List Cond := .code yX6_blocks cX6_blocks 1 (some .int) :: ([.fieldLink RX6 7 "FlashBootModel" "flash" "[I"] ++ wsX60)
def wsX6_block_r1 : List Cond := [Cond.fieldLink RX6 36 "FlashBootModel" "thrown" "I", Cond.fieldLink RX6 19 "FlashBootModel" "power" "Z", Cond.fieldLink RX6 7 "FlashBootModel" "flash" "[I", Cond.fieldLink RX6 74 "FlashBootModel" "length" "I", Cond.fieldLink RX6 16 "FlashBootModel" "tape" "[I", Cond.methodLink RX6 118 yX6_isRight, Cond.instanceMethod yX6_isRight, Cond.selects RX6 yX6_isRight yX6_isRight, Cond.initialized RX6, Cond.code yX6_isRight cX6_isRight 1 (some .boolean), Cond.methodLink RX6 105 yX6_isInRange, Cond.instanceMethod yX6_isInRange, Cond.selects RX6 yX6_isInRange yX6_isInRange, Cond.code yX6_isInRange cX6_isInRange 2 (some .boolean), Cond.methodLink RX6 94 yX6_manifestByte, Cond.instanceMethod yX6_manifestByte, Cond.selects RX6 yX6_manifestByte yX6_manifestByte, Cond.code yX6_manifestByte cX6_manifestByte 3 (some .int), Cond.methodLink RX6 98 yX6_isIn, Cond.static yX6_isIn, Cond.code yX6_isIn cX6_isIn 3 (some .boolean), Cond.methodLink RX6 109 yX6_isTagged, Cond.instanceMethod yX6_isTagged, Cond.selects RX6 yX6_isTagged yX6_isTagged]
def wsX6_block_r2 : List Cond := [Cond.code yX6_isTagged cX6_isTagged 4 (some .boolean), Cond.fieldLink RX6 13 "FlashBootModel" "keys" "[I", Cond.fieldLink RX6 33 "FlashBootModel" "vendor" "I", Cond.methodLink RX6 50 yX6_digested, Cond.static yX6_digested, Cond.code yX6_digested cX6_digested 3 (some .int), Cond.constant RX6 49 (16777619), Cond.methodLink RX6 102 yX6_manifestFour, Cond.instanceMethod yX6_manifestFour, Cond.selects RX6 yX6_manifestFour yX6_manifestFour, Cond.code yX6_manifestFour cX6_manifestFour 5 (some .int), Cond.methodLink RX6 121 yX6_blocks, Cond.instanceMethod yX6_blocks, Cond.selects RX6 yX6_blocks yX6_blocks, Cond.code yX6_blocks cX6_blocks 1 (some .int), Cond.methodLink RX6 83 yX6_program, Cond.instanceMethod yX6_program, Cond.selects RX6 yX6_program yX6_program, Cond.code yX6_program cX6_program 3 none, Cond.fieldLink RX6 46 "FlashBootModel" "mask" "I", Cond.methodLink RX6 42 yX6_isWhole, Cond.instanceMethod yX6_isWhole, Cond.selects RX6 yX6_isWhole yX6_isWhole, Cond.code yX6_isWhole cX6_isWhole 1 (some .boolean)]
def wsX6_block_r3 : List Cond := [Cond.fieldLink RX6 39 "FlashBootModel" "acts" "I", Cond.fieldLink RX6 27 "FlashBootModel" "left" "I", Cond.fieldLink RX6 23 "FlashBootModel" "runs" "I"]
def wsX6_block : List Cond := .code yX6_block cX6_block 4 (some .int) :: ((wsX6_block_r1 ++ (wsX6_block_r2 ++ wsX6_block_r3)) ++ wsX60)
def wsX6_add : List Cond := .code yX6_add cX6_add 2 none :: ([.fieldLink RX6 124 "FlashBootModel" "made" "I", .fieldLink RX6 30 "FlashBootModel" "image" "[I"] ++ wsX60)
def wsX6_patches : List Cond := .code yX6_patches cX6_patches 8 (some .boolean) :: ([.fieldLink RX6 7 "FlashBootModel" "flash" "[I", .fieldLink RX6 124 "FlashBootModel" "made" "I", .methodLink RX6 127 yX6_add, .instanceMethod yX6_add, .selects RX6 yX6_add yX6_add, .initialized RX6, .code yX6_add cX6_add 2 none, .fieldLink RX6 30 "FlashBootModel" "image" "[I"] ++ wsX60)
def wsX6_install_r1 : List Cond := [Cond.fieldLink RX6 36 "FlashBootModel" "thrown" "I", Cond.fieldLink RX6 19 "FlashBootModel" "power" "Z", Cond.fieldLink RX6 7 "FlashBootModel" "flash" "[I", Cond.fieldLink RX6 23 "FlashBootModel" "runs" "I", Cond.fieldLink RX6 124 "FlashBootModel" "made" "I", Cond.fieldLink RX6 30 "FlashBootModel" "image" "[I", Cond.methodLink RX6 118 yX6_isRight, Cond.instanceMethod yX6_isRight, Cond.selects RX6 yX6_isRight yX6_isRight, Cond.initialized RX6, Cond.code yX6_isRight cX6_isRight 1 (some .boolean), Cond.methodLink RX6 105 yX6_isInRange, Cond.instanceMethod yX6_isInRange, Cond.selects RX6 yX6_isInRange yX6_isInRange, Cond.code yX6_isInRange cX6_isInRange 2 (some .boolean), Cond.methodLink RX6 94 yX6_manifestByte, Cond.instanceMethod yX6_manifestByte, Cond.selects RX6 yX6_manifestByte yX6_manifestByte, Cond.code yX6_manifestByte cX6_manifestByte 3 (some .int), Cond.fieldLink RX6 16 "FlashBootModel" "tape" "[I", Cond.methodLink RX6 98 yX6_isIn, Cond.static yX6_isIn, Cond.code yX6_isIn cX6_isIn 3 (some .boolean), Cond.methodLink RX6 109 yX6_isTagged]
def wsX6_install_r2 : List Cond := [Cond.instanceMethod yX6_isTagged, Cond.selects RX6 yX6_isTagged yX6_isTagged, Cond.code yX6_isTagged cX6_isTagged 4 (some .boolean), Cond.fieldLink RX6 13 "FlashBootModel" "keys" "[I", Cond.fieldLink RX6 33 "FlashBootModel" "vendor" "I", Cond.methodLink RX6 50 yX6_digested, Cond.static yX6_digested, Cond.code yX6_digested cX6_digested 3 (some .int), Cond.constant RX6 49 (16777619), Cond.methodLink RX6 102 yX6_manifestFour, Cond.instanceMethod yX6_manifestFour, Cond.selects RX6 yX6_manifestFour yX6_manifestFour, Cond.code yX6_manifestFour cX6_manifestFour 5 (some .int), Cond.methodLink RX6 115 yX6_isOld, Cond.instanceMethod yX6_isOld, Cond.selects RX6 yX6_isOld yX6_isOld, Cond.code yX6_isOld cX6_isOld 3 (some .boolean), Cond.methodLink RX6 70 yX6_counterValue, Cond.instanceMethod yX6_counterValue, Cond.selects RX6 yX6_counterValue yX6_counterValue, Cond.code yX6_counterValue cX6_counterValue 3 (some .int), Cond.methodLink RX6 54 yX6_ones, Cond.static yX6_ones, Cond.code yX6_ones cX6_ones 3 (some .int)]
def wsX6_install_r3 : List Cond := [Cond.methodLink RX6 112 yX6_sequenceOf, Cond.instanceMethod yX6_sequenceOf, Cond.selects RX6 yX6_sequenceOf yX6_sequenceOf, Cond.code yX6_sequenceOf cX6_sequenceOf 2 (some .int), Cond.methodLink RX6 58 yX6_headerAt, Cond.static yX6_headerAt, Cond.code yX6_headerAt cX6_headerAt 1 (some .int), Cond.methodLink RX6 121 yX6_blocks, Cond.instanceMethod yX6_blocks, Cond.selects RX6 yX6_blocks yX6_blocks, Cond.code yX6_blocks cX6_blocks 1 (some .int), Cond.methodLink RX6 67 yX6_four, Cond.instanceMethod yX6_four, Cond.selects RX6 yX6_four yX6_four, Cond.code yX6_four cX6_four 2 (some .int), Cond.methodLink RX6 64 yX6_digestOf, Cond.instanceMethod yX6_digestOf, Cond.selects RX6 yX6_digestOf yX6_digestOf, Cond.code yX6_digestOf cX6_digestOf 5 (some .int), Cond.methodLink RX6 61 yX6_imageAt, Cond.static yX6_imageAt, Cond.code yX6_imageAt cX6_imageAt 1 (some .int), Cond.methodLink RX6 130 yX6_patches, Cond.instanceMethod yX6_patches]
def wsX6_install_r4 : List Cond := [Cond.selects RX6 yX6_patches yX6_patches, Cond.code yX6_patches cX6_patches 8 (some .boolean), Cond.methodLink RX6 127 yX6_add, Cond.instanceMethod yX6_add, Cond.selects RX6 yX6_add yX6_add, Cond.code yX6_add cX6_add 2 none, Cond.methodLink RX6 79 yX6_erase, Cond.instanceMethod yX6_erase, Cond.selects RX6 yX6_erase yX6_erase, Cond.code yX6_erase cX6_erase 4 none, Cond.fieldLink RX6 46 "FlashBootModel" "mask" "I", Cond.methodLink RX6 42 yX6_isWhole, Cond.instanceMethod yX6_isWhole, Cond.selects RX6 yX6_isWhole yX6_isWhole, Cond.code yX6_isWhole cX6_isWhole 1 (some .boolean), Cond.fieldLink RX6 39 "FlashBootModel" "acts" "I", Cond.fieldLink RX6 27 "FlashBootModel" "left" "I", Cond.methodLink RX6 83 yX6_program, Cond.instanceMethod yX6_program, Cond.selects RX6 yX6_program yX6_program, Cond.code yX6_program cX6_program 3 none, Cond.methodLink RX6 87 yX6_writeHeader, Cond.instanceMethod yX6_writeHeader, Cond.selects RX6 yX6_writeHeader yX6_writeHeader]
def wsX6_install_r5 : List Cond := [Cond.code yX6_writeHeader cX6_writeHeader 7 none, Cond.methodLink RX6 91 yX6_part, Cond.static yX6_part, Cond.code yX6_part cX6_part 2 (some .int)]
def wsX6_install : List Cond := .code yX6_install cX6_install 9 (some .int) :: ((wsX6_install_r1 ++ (wsX6_install_r2 ++ (wsX6_install_r3 ++ (wsX6_install_r4 ++ wsX6_install_r5)))) ++ wsX60)
def wsX6_best_r1 : List Cond := [Cond.fieldLink RX6 7 "FlashBootModel" "flash" "[I", Cond.methodLink RX6 134 yX6_isGood, Cond.instanceMethod yX6_isGood, Cond.selects RX6 yX6_isGood yX6_isGood, Cond.initialized RX6, Cond.code yX6_isGood cX6_isGood 4 (some .boolean), Cond.methodLink RX6 58 yX6_headerAt, Cond.static yX6_headerAt, Cond.code yX6_headerAt cX6_headerAt 1 (some .int), Cond.methodLink RX6 61 yX6_imageAt, Cond.static yX6_imageAt, Cond.code yX6_imageAt cX6_imageAt 1 (some .int), Cond.methodLink RX6 64 yX6_digestOf, Cond.instanceMethod yX6_digestOf, Cond.selects RX6 yX6_digestOf yX6_digestOf, Cond.code yX6_digestOf cX6_digestOf 5 (some .int), Cond.methodLink RX6 50 yX6_digested, Cond.static yX6_digested, Cond.code yX6_digested cX6_digested 3 (some .int), Cond.constant RX6 49 (16777619), Cond.methodLink RX6 67 yX6_four, Cond.instanceMethod yX6_four, Cond.selects RX6 yX6_four yX6_four, Cond.code yX6_four cX6_four 2 (some .int)]
def wsX6_best_r2 : List Cond := [Cond.methodLink RX6 70 yX6_counterValue, Cond.instanceMethod yX6_counterValue, Cond.selects RX6 yX6_counterValue yX6_counterValue, Cond.code yX6_counterValue cX6_counterValue 3 (some .int), Cond.methodLink RX6 54 yX6_ones, Cond.static yX6_ones, Cond.code yX6_ones cX6_ones 3 (some .int), Cond.methodLink RX6 138 yX6_isConfirmed, Cond.instanceMethod yX6_isConfirmed, Cond.selects RX6 yX6_isConfirmed yX6_isConfirmed, Cond.code yX6_isConfirmed cX6_isConfirmed 2 (some .boolean), Cond.methodLink RX6 112 yX6_sequenceOf, Cond.instanceMethod yX6_sequenceOf, Cond.selects RX6 yX6_sequenceOf yX6_sequenceOf, Cond.code yX6_sequenceOf cX6_sequenceOf 2 (some .int)]
def wsX6_best : List Cond := .code yX6_best cX6_best 5 (some .int) :: ((wsX6_best_r1 ++ wsX6_best_r2) ++ wsX60)
def wsX6_boot_r1 : List Cond := [Cond.fieldLink RX6 36 "FlashBootModel" "thrown" "I", Cond.fieldLink RX6 19 "FlashBootModel" "power" "Z", Cond.fieldLink RX6 23 "FlashBootModel" "runs" "I", Cond.fieldLink RX6 7 "FlashBootModel" "flash" "[I", Cond.methodLink RX6 141 yX6_best, Cond.instanceMethod yX6_best, Cond.selects RX6 yX6_best yX6_best, Cond.initialized RX6, Cond.code yX6_best cX6_best 5 (some .int), Cond.methodLink RX6 134 yX6_isGood, Cond.instanceMethod yX6_isGood, Cond.selects RX6 yX6_isGood yX6_isGood, Cond.code yX6_isGood cX6_isGood 4 (some .boolean), Cond.methodLink RX6 58 yX6_headerAt, Cond.static yX6_headerAt, Cond.code yX6_headerAt cX6_headerAt 1 (some .int), Cond.methodLink RX6 61 yX6_imageAt, Cond.static yX6_imageAt, Cond.code yX6_imageAt cX6_imageAt 1 (some .int), Cond.methodLink RX6 64 yX6_digestOf, Cond.instanceMethod yX6_digestOf, Cond.selects RX6 yX6_digestOf yX6_digestOf, Cond.code yX6_digestOf cX6_digestOf 5 (some .int), Cond.methodLink RX6 50 yX6_digested]
def wsX6_boot_r2 : List Cond := [Cond.static yX6_digested, Cond.code yX6_digested cX6_digested 3 (some .int), Cond.constant RX6 49 (16777619), Cond.methodLink RX6 67 yX6_four, Cond.instanceMethod yX6_four, Cond.selects RX6 yX6_four yX6_four, Cond.code yX6_four cX6_four 2 (some .int), Cond.methodLink RX6 70 yX6_counterValue, Cond.instanceMethod yX6_counterValue, Cond.selects RX6 yX6_counterValue yX6_counterValue, Cond.code yX6_counterValue cX6_counterValue 3 (some .int), Cond.methodLink RX6 54 yX6_ones, Cond.static yX6_ones, Cond.code yX6_ones cX6_ones 3 (some .int), Cond.methodLink RX6 138 yX6_isConfirmed, Cond.instanceMethod yX6_isConfirmed, Cond.selects RX6 yX6_isConfirmed yX6_isConfirmed, Cond.code yX6_isConfirmed cX6_isConfirmed 2 (some .boolean), Cond.methodLink RX6 112 yX6_sequenceOf, Cond.instanceMethod yX6_sequenceOf, Cond.selects RX6 yX6_sequenceOf yX6_sequenceOf, Cond.code yX6_sequenceOf cX6_sequenceOf 2 (some .int), Cond.methodLink RX6 145 yX6_lessOne, Cond.static yX6_lessOne]
def wsX6_boot_r3 : List Cond := [Cond.code yX6_lessOne cX6_lessOne 2 (some .int), Cond.methodLink RX6 83 yX6_program, Cond.instanceMethod yX6_program, Cond.selects RX6 yX6_program yX6_program, Cond.code yX6_program cX6_program 3 none, Cond.fieldLink RX6 46 "FlashBootModel" "mask" "I", Cond.methodLink RX6 42 yX6_isWhole, Cond.instanceMethod yX6_isWhole, Cond.selects RX6 yX6_isWhole yX6_isWhole, Cond.code yX6_isWhole cX6_isWhole 1 (some .boolean), Cond.fieldLink RX6 39 "FlashBootModel" "acts" "I", Cond.fieldLink RX6 27 "FlashBootModel" "left" "I"]
def wsX6_boot : List Cond := .code yX6_boot cX6_boot 3 (some .int) :: ((wsX6_boot_r1 ++ (wsX6_boot_r2 ++ wsX6_boot_r3)) ++ wsX60)
def wsX6_confirm_r1 : List Cond := [Cond.fieldLink RX6 36 "FlashBootModel" "thrown" "I", Cond.fieldLink RX6 19 "FlashBootModel" "power" "Z", Cond.fieldLink RX6 23 "FlashBootModel" "runs" "I", Cond.fieldLink RX6 7 "FlashBootModel" "flash" "[I", Cond.methodLink RX6 138 yX6_isConfirmed, Cond.instanceMethod yX6_isConfirmed, Cond.selects RX6 yX6_isConfirmed yX6_isConfirmed, Cond.initialized RX6, Cond.code yX6_isConfirmed cX6_isConfirmed 2 (some .boolean), Cond.methodLink RX6 58 yX6_headerAt, Cond.static yX6_headerAt, Cond.code yX6_headerAt cX6_headerAt 1 (some .int), Cond.methodLink RX6 112 yX6_sequenceOf, Cond.instanceMethod yX6_sequenceOf, Cond.selects RX6 yX6_sequenceOf yX6_sequenceOf, Cond.code yX6_sequenceOf cX6_sequenceOf 2 (some .int), Cond.methodLink RX6 83 yX6_program, Cond.instanceMethod yX6_program, Cond.selects RX6 yX6_program yX6_program, Cond.code yX6_program cX6_program 3 none, Cond.fieldLink RX6 46 "FlashBootModel" "mask" "I", Cond.methodLink RX6 42 yX6_isWhole, Cond.instanceMethod yX6_isWhole, Cond.selects RX6 yX6_isWhole yX6_isWhole]
def wsX6_confirm_r2 : List Cond := [Cond.code yX6_isWhole cX6_isWhole 1 (some .boolean), Cond.fieldLink RX6 39 "FlashBootModel" "acts" "I", Cond.fieldLink RX6 27 "FlashBootModel" "left" "I", Cond.methodLink RX6 70 yX6_counterValue, Cond.instanceMethod yX6_counterValue, Cond.selects RX6 yX6_counterValue yX6_counterValue, Cond.code yX6_counterValue cX6_counterValue 3 (some .int), Cond.methodLink RX6 54 yX6_ones, Cond.static yX6_ones, Cond.code yX6_ones cX6_ones 3 (some .int), Cond.methodLink RX6 145 yX6_lessOne, Cond.static yX6_lessOne, Cond.code yX6_lessOne cX6_lessOne 2 (some .int)]
def wsX6_confirm : List Cond := .code yX6_confirm cX6_confirm 3 (some .int) :: ((wsX6_confirm_r1 ++ wsX6_confirm_r2) ++ wsX60)
def wsX6_crash : List Cond := .code yX6_crash cX6_crash 3 (some .int) :: ([.fieldLink RX6 36 "FlashBootModel" "thrown" "I", .fieldLink RX6 27 "FlashBootModel" "left" "I", .fieldLink RX6 46 "FlashBootModel" "mask" "I"] ++ wsX60)
def wsX6_running : List Cond := .code yX6_running cX6_running 1 (some .int) :: ([.fieldLink RX6 36 "FlashBootModel" "thrown" "I", .fieldLink RX6 23 "FlashBootModel" "runs" "I"] ++ wsX60)
def wsX6_counter : List Cond := .code yX6_counter cX6_counter 1 (some .int) :: ([.fieldLink RX6 36 "FlashBootModel" "thrown" "I", .methodLink RX6 70 yX6_counterValue, .instanceMethod yX6_counterValue, .selects RX6 yX6_counterValue yX6_counterValue, .initialized RX6, .code yX6_counterValue cX6_counterValue 3 (some .int), .fieldLink RX6 7 "FlashBootModel" "flash" "[I", .methodLink RX6 54 yX6_ones, .static yX6_ones, .code yX6_ones cX6_ones 3 (some .int)] ++ wsX60)
def wsX6_acts : List Cond := .code yX6_acts cX6_acts 1 (some .int) :: ([.fieldLink RX6 36 "FlashBootModel" "thrown" "I", .fieldLink RX6 39 "FlashBootModel" "acts" "I"] ++ wsX60)
def wsX6_byteOf : List Cond := .code yX6_byteOf cX6_byteOf 2 (some .int) :: ([.fieldLink RX6 36 "FlashBootModel" "thrown" "I", .fieldLink RX6 7 "FlashBootModel" "flash" "[I"] ++ wsX60)
def wsX6_good_r1 : List Cond := [Cond.fieldLink RX6 36 "FlashBootModel" "thrown" "I", Cond.methodLink RX6 134 yX6_isGood, Cond.instanceMethod yX6_isGood, Cond.selects RX6 yX6_isGood yX6_isGood, Cond.initialized RX6, Cond.code yX6_isGood cX6_isGood 4 (some .boolean), Cond.fieldLink RX6 7 "FlashBootModel" "flash" "[I", Cond.methodLink RX6 58 yX6_headerAt, Cond.static yX6_headerAt, Cond.code yX6_headerAt cX6_headerAt 1 (some .int), Cond.methodLink RX6 61 yX6_imageAt, Cond.static yX6_imageAt, Cond.code yX6_imageAt cX6_imageAt 1 (some .int), Cond.methodLink RX6 64 yX6_digestOf, Cond.instanceMethod yX6_digestOf, Cond.selects RX6 yX6_digestOf yX6_digestOf, Cond.code yX6_digestOf cX6_digestOf 5 (some .int), Cond.methodLink RX6 50 yX6_digested, Cond.static yX6_digested, Cond.code yX6_digested cX6_digested 3 (some .int), Cond.constant RX6 49 (16777619), Cond.methodLink RX6 67 yX6_four, Cond.instanceMethod yX6_four, Cond.selects RX6 yX6_four yX6_four]
def wsX6_good_r2 : List Cond := [Cond.code yX6_four cX6_four 2 (some .int), Cond.methodLink RX6 70 yX6_counterValue, Cond.instanceMethod yX6_counterValue, Cond.selects RX6 yX6_counterValue yX6_counterValue, Cond.code yX6_counterValue cX6_counterValue 3 (some .int), Cond.methodLink RX6 54 yX6_ones, Cond.static yX6_ones, Cond.code yX6_ones cX6_ones 3 (some .int)]
def wsX6_good : List Cond := .code yX6_good cX6_good 2 (some .int) :: ((wsX6_good_r1 ++ wsX6_good_r2) ++ wsX60)
def wsJ9_min_7cf53 : List Cond := .code yJ9_min_7cf53 cJ9_min_7cf53 2 (some .int) :: ([])
def wsL_cell : List Cond := .code yL_cell cL_cell 2 (some .int) :: ([])
def wsL_law_r1 : List Cond := [Cond.classLink RL 7 RX5, Cond.instantiable RX5 9, Cond.initialized RX5, Cond.classLink RL 18 RX6, Cond.instantiable RX6 13, Cond.initialized RX6, Cond.constantLong RL 21 (4294967295), Cond.methodLink RL 9 yL_cell, Cond.static yL_cell, Cond.initialized RL, Cond.code yL_cell cL_cell 2 (some .int), Cond.methodLink RL 15 yX5_init, Cond.instanceMethod yX5_init, Cond.code yX5_init cX5_init 4 none, Cond.methodLink RX5 3 objectInit, Cond.instanceMethod objectInit, Cond.code objectInit ⟨#[0xb1]⟩ 1 none, Cond.classLink RX5 9 RX0, Cond.instantiable RX0 6, Cond.initialized RX0, Cond.fieldLink RX5 12 "FlashBoot" "flash" "LFlashBoot$Flash;", Cond.classLink RX5 16 RX4, Cond.instantiable RX4 2, Cond.initialized RX4]
def wsL_law_r2 : List Cond := [Cond.fieldLink RX5 19 "FlashBoot" "tape" "LFlashBoot$Tape;", Cond.classLink RX5 23 RX3, Cond.instantiable RX3 3, Cond.initialized RX3, Cond.fieldLink RX5 28 "FlashBoot" "lower" "LFlashBoot$Slot;", Cond.fieldLink RX5 32 "FlashBoot" "upper" "LFlashBoot$Slot;", Cond.classLink RX5 35 RX1, Cond.instantiable RX1 1, Cond.initialized RX1, Cond.fieldLink RX5 38 "FlashBoot" "order" "LFlashBoot$Manifest;", Cond.classLink RX5 42 RX2, Cond.instantiable RX2 2, Cond.initialized RX2, Cond.fieldLink RX5 45 "FlashBoot" "patch" "LFlashBoot$Patch;", Cond.fieldLink RX5 49 "FlashBoot" "runs" "I", Cond.fieldLink RX5 57 "FlashBoot" "keyBytes" "[I", Cond.fieldLink RX5 61 "FlashBoot" "vendorByte" "I", Cond.methodLink RX5 11 yX0_init, Cond.instanceMethod yX0_init, Cond.code yX0_init cX0_init 2 none, Cond.methodLink RX0 3 objectInit, Cond.arrayClass .int, Cond.fieldLink RX0 11 "FlashBoot$Flash" "bytes" "[I", Cond.fieldLink RX0 15 "FlashBoot$Flash" "power" "Z"]
def wsL_law_r3 : List Cond := [Cond.fieldLink RX0 19 "FlashBoot$Flash" "actsDone" "I", Cond.fieldLink RX0 23 "FlashBoot$Flash" "crashIsSet" "Z", Cond.fieldLink RX0 26 "FlashBoot$Flash" "actsToCrash" "I", Cond.fieldLink RX0 29 "FlashBoot$Flash" "crashMask" "I", Cond.instanceMethod yX4_init, Cond.code yX4_init cX4_init 1 none, Cond.methodLink RX4 3 objectInit, Cond.fieldLink RX4 9 "FlashBoot$Tape" "bytes" "[I", Cond.fieldLink RX4 15 "FlashBoot$Tape" "length" "I", Cond.methodLink RX5 25 yX3_init, Cond.instanceMethod yX3_init, Cond.code yX3_init cX3_init 2 none, Cond.methodLink RX3 3 objectInit, Cond.fieldLink RX3 9 "FlashBoot$Slot" "firstPage" "I", Cond.fieldLink RX3 15 "FlashBoot$Slot" "start" "I", Cond.fieldLink RX3 18 "FlashBoot$Slot" "header" "I", Cond.instanceMethod yX1_init, Cond.code yX1_init cX1_init 1 none, Cond.methodLink RX1 3 objectInit, Cond.fieldLink RX1 11 "FlashBoot$Manifest" "bytes" "[I", Cond.instanceMethod yX2_init, Cond.code yX2_init cX2_init 1 none, Cond.methodLink RX2 3 objectInit, Cond.fieldLink RX2 9 "FlashBoot$Patch" "image" "[I"]
def wsL_law_r4 : List Cond := [Cond.fieldLink RX2 15 "FlashBoot$Patch" "made" "I", Cond.methodLink RX5 53 yX5_rowOfWords, Cond.static yX5_rowOfWords, Cond.code yX5_rowOfWords cX5_rowOfWords 4 (some (.array .int)), Cond.methodLink RX5 294 yX5_byteOfWord, Cond.static yX5_byteOfWord, Cond.code yX5_byteOfWord cX5_byteOfWord 2 (some .int), Cond.methodLink RL 20 yX6_init, Cond.instanceMethod yX6_init, Cond.code yX6_init cX6_init 5 none, Cond.methodLink RX6 1 objectInit, Cond.fieldLink RX6 7 "FlashBootModel" "flash" "[I", Cond.fieldLink RX6 13 "FlashBootModel" "keys" "[I", Cond.fieldLink RX6 16 "FlashBootModel" "tape" "[I", Cond.fieldLink RX6 19 "FlashBootModel" "power" "Z", Cond.fieldLink RX6 23 "FlashBootModel" "runs" "I", Cond.fieldLink RX6 27 "FlashBootModel" "left" "I", Cond.fieldLink RX6 30 "FlashBootModel" "image" "[I", Cond.fieldLink RX6 33 "FlashBootModel" "vendor" "I", Cond.methodLink RL 23 yX5_type, Cond.instanceMethod yX5_type, Cond.selects RX5 yX5_type yX5_type, Cond.code yX5_type cX5_type 4 (some .int), Cond.methodLink RX5 64 yX4_add]
def wsL_law_r5 : List Cond := [Cond.instanceMethod yX4_add, Cond.selects RX4 yX4_add yX4_add, Cond.code yX4_add cX4_add 5 (some .boolean), Cond.methodLink RL 27 yX6_type, Cond.instanceMethod yX6_type, Cond.selects RX6 yX6_type yX6_type, Cond.code yX6_type cX6_type 5 (some .int), Cond.fieldLink RX6 36 "FlashBootModel" "thrown" "I", Cond.fieldLink RX6 74 "FlashBootModel" "length" "I", Cond.constantLong RX6 77 (255), Cond.methodLink RL 28 yX5_factory, Cond.instanceMethod yX5_factory, Cond.selects RX5 yX5_factory yX5_factory, Cond.code yX5_factory cX5_factory 2 (some .int), Cond.methodLink RX5 75 yX5_isSequence, Cond.static yX5_isSequence, Cond.code yX5_isSequence cX5_isSequence 1 (some .boolean), Cond.methodLink RX5 79 yX3_eraseImage, Cond.instanceMethod yX3_eraseImage, Cond.selects RX3 yX3_eraseImage yX3_eraseImage, Cond.code yX3_eraseImage cX3_eraseImage 3 none, Cond.methodLink RX3 55 yX0_erase, Cond.instanceMethod yX0_erase, Cond.selects RX0 yX0_erase yX0_erase]
def wsL_law_r6 : List Cond := [Cond.code yX0_erase cX0_erase 4 none, Cond.methodLink RX0 32 yX0_tearNextAct, Cond.instanceMethod yX0_tearNextAct, Cond.selects RX0 yX0_tearNextAct yX0_tearNextAct, Cond.code yX0_tearNextAct cX0_tearNextAct 1 (some .boolean), Cond.methodLink RX5 83 yX3_eraseHeader, Cond.instanceMethod yX3_eraseHeader, Cond.selects RX3 yX3_eraseHeader yX3_eraseHeader, Cond.code yX3_eraseHeader cX3_eraseHeader 2 none, Cond.methodLink RX5 86 yX0_erase, Cond.methodLink RX5 92 yX3_programImage, Cond.instanceMethod yX3_programImage, Cond.selects RX3 yX3_programImage yX3_programImage, Cond.code yX3_programImage cX3_programImage 4 none, Cond.methodLink RX3 59 yX0_programRow, Cond.instanceMethod yX0_programRow, Cond.selects RX0 yX0_programRow yX0_programRow, Cond.code yX0_programRow cX0_programRow 5 none, Cond.methodLink RX0 36 yX0_program, Cond.instanceMethod yX0_program, Cond.selects RX0 yX0_program yX0_program, Cond.code yX0_program cX0_program 4 none, Cond.methodLink RX5 96 yX5_digest, Cond.static yX5_digest]
def wsL_law_r7 : List Cond := [Cond.code yX5_digest cX5_digest 5 (some .int), Cond.methodLink RX5 290 yX5_digestByte, Cond.static yX5_digestByte, Cond.code yX5_digestByte cX5_digestByte 3 (some .int), Cond.constant RX5 293 (16777619), Cond.methodLink RX5 100 yX3_programName, Cond.instanceMethod yX3_programName, Cond.selects RX3 yX3_programName yX3_programName, Cond.code yX3_programName cX3_programName 5 none, Cond.methodLink RX3 63 yX0_program, Cond.methodLink RX3 67 yX0_programWord, Cond.instanceMethod yX0_programWord, Cond.selects RX0 yX0_programWord yX0_programWord, Cond.code yX0_programWord cX0_programWord 4 none, Cond.methodLink RX5 104 yX3_programConfirmed, Cond.instanceMethod yX3_programConfirmed, Cond.selects RX3 yX3_programConfirmed yX3_programConfirmed, Cond.code yX3_programConfirmed cX3_programConfirmed 2 none, Cond.methodLink RX5 107 yX3_programWhole, Cond.instanceMethod yX3_programWhole, Cond.selects RX3 yX3_programWhole yX3_programWhole, Cond.code yX3_programWhole cX3_programWhole 2 none, Cond.methodLink RX5 110 yX5_unlessTorn, Cond.instanceMethod yX5_unlessTorn]
def wsL_law_r8 : List Cond := [Cond.selects RX5 yX5_unlessTorn yX5_unlessTorn, Cond.code yX5_unlessTorn cX5_unlessTorn 2 (some .int), Cond.methodLink RL 32 yX6_factory, Cond.instanceMethod yX6_factory, Cond.selects RX6 yX6_factory yX6_factory, Cond.code yX6_factory cX6_factory 5 (some .int), Cond.methodLink RX6 79 yX6_erase, Cond.instanceMethod yX6_erase, Cond.selects RX6 yX6_erase yX6_erase, Cond.code yX6_erase cX6_erase 4 none, Cond.fieldLink RX6 46 "FlashBootModel" "mask" "I", Cond.methodLink RX6 42 yX6_isWhole, Cond.instanceMethod yX6_isWhole, Cond.selects RX6 yX6_isWhole yX6_isWhole, Cond.code yX6_isWhole cX6_isWhole 1 (some .boolean), Cond.fieldLink RX6 39 "FlashBootModel" "acts" "I", Cond.methodLink RX6 83 yX6_program, Cond.instanceMethod yX6_program, Cond.selects RX6 yX6_program yX6_program, Cond.code yX6_program cX6_program 3 none, Cond.methodLink RX6 50 yX6_digested, Cond.static yX6_digested, Cond.code yX6_digested cX6_digested 3 (some .int), Cond.constant RX6 49 (16777619)]
def wsL_law_r9 : List Cond := [Cond.methodLink RX6 87 yX6_writeHeader, Cond.instanceMethod yX6_writeHeader, Cond.selects RX6 yX6_writeHeader yX6_writeHeader, Cond.code yX6_writeHeader cX6_writeHeader 7 none, Cond.methodLink RX6 58 yX6_headerAt, Cond.static yX6_headerAt, Cond.code yX6_headerAt cX6_headerAt 1 (some .int), Cond.methodLink RX6 91 yX6_part, Cond.static yX6_part, Cond.code yX6_part cX6_part 2 (some .int), Cond.methodLink RL 33 yX5_manifest, Cond.instanceMethod yX5_manifest, Cond.selects RX5 yX5_manifest yX5_manifest, Cond.code yX5_manifest cX5_manifest 2 (some .int), Cond.methodLink RX5 114 yX5_judgeTape, Cond.instanceMethod yX5_judgeTape, Cond.selects RX5 yX5_judgeTape yX5_judgeTape, Cond.code yX5_judgeTape cX5_judgeTape 1 (some .int), Cond.methodLink RX5 203 yX1_readTape, Cond.instanceMethod yX1_readTape, Cond.selects RX1 yX1_readTape yX1_readTape, Cond.code yX1_readTape cX1_readTape 2 none, Cond.methodLink RX1 18 arraycopyName, Cond.native arraycopyName]
def wsL_law_r10 : List Cond := [Cond.static arraycopyName, Cond.initialized "java/lang/System", Cond.methodLink RX5 207 yX1_isInRange, Cond.instanceMethod yX1_isInRange, Cond.selects RX1 yX1_isInRange yX1_isInRange, Cond.code yX1_isInRange cX1_isInRange 1 (some .boolean), Cond.methodLink RX1 33 yX1_sequence, Cond.instanceMethod yX1_sequence, Cond.selects RX1 yX1_sequence yX1_sequence, Cond.code yX1_sequence cX1_sequence 1 (some .int), Cond.methodLink RX1 41 yX1_payloadLength, Cond.instanceMethod yX1_payloadLength, Cond.selects RX1 yX1_payloadLength yX1_payloadLength, Cond.code yX1_payloadLength cX1_payloadLength 1 (some .int), Cond.static yX5_isLength, Cond.code yX5_isLength cX5_isLength 1 (some .boolean), Cond.methodLink RX1 47 yX1_imageLength, Cond.instanceMethod yX1_imageLength, Cond.selects RX1 yX1_imageLength yX1_imageLength, Cond.code yX1_imageLength cX1_imageLength 1 (some .int), Cond.methodLink RX5 210 yX5_isOurs, Cond.instanceMethod yX5_isOurs, Cond.selects RX5 yX5_isOurs yX5_isOurs, Cond.code yX5_isOurs cX5_isOurs 1 (some .boolean)]
def wsL_law_r11 : List Cond := [Cond.methodLink RX5 216 yX1_isTagged, Cond.instanceMethod yX1_isTagged, Cond.selects RX1 yX1_isTagged yX1_isTagged, Cond.code yX1_isTagged cX1_isTagged 2 (some .boolean), Cond.methodLink RX1 30 yX1_word, Cond.instanceMethod yX1_word, Cond.selects RX1 yX1_word yX1_word, Cond.code yX1_word cX1_word 4 (some .int), Cond.methodLink RX5 220 yX1_vendor, Cond.instanceMethod yX1_vendor, Cond.selects RX1 yX1_vendor yX1_vendor, Cond.code yX1_vendor cX1_vendor 1 (some .int), Cond.methodLink RX5 146 yX1_sequence, Cond.methodLink RX5 149 yX5_isOld, Cond.instanceMethod yX5_isOld, Cond.selects RX5 yX5_isOld yX5_isOld, Cond.code yX5_isOld cX5_isOld 2 (some .boolean), Cond.methodLink RX5 223 yX5_counter, Cond.instanceMethod yX5_counter, Cond.selects RX5 yX5_counter yX5_counter, Cond.code yX5_counter cX5_counter 3 (some .int), Cond.methodLink RX5 189 yX0_at, Cond.instanceMethod yX0_at, Cond.selects RX0 yX0_at yX0_at]
def wsL_law_r12 : List Cond := [Cond.code yX0_at cX0_at 2 (some .int), Cond.methodLink RX5 192 yJ6_bitCount_0f7a4, Cond.static yJ6_bitCount_0f7a4, Cond.initialized RJ6, Cond.code yJ6_bitCount_0f7a4 cJ6_bitCount_0f7a4 1 (some .int), Cond.constant RJ6 265 (1431655765), Cond.constant RJ6 266 (858993459), Cond.constant RJ6 267 (252645135), Cond.methodLink RX5 155 yX5_slot, Cond.instanceMethod yX5_slot, Cond.selects RX5 yX5_slot yX5_slot, Cond.code yX5_slot cX5_slot 2 (some (.object "FlashBoot$Slot")), Cond.methodLink RX5 180 yX3_sequence, Cond.instanceMethod yX3_sequence, Cond.selects RX3 yX3_sequence yX3_sequence, Cond.code yX3_sequence cX3_sequence 2 (some .int), Cond.methodLink RX3 21 yX0_at, Cond.methodLink RX5 213 yX1_standsIn, Cond.instanceMethod yX1_standsIn, Cond.selects RX1 yX1_standsIn yX1_standsIn, Cond.code yX1_standsIn cX1_standsIn 3 (some .boolean), Cond.methodLink RX1 24 yX0_at, Cond.methodLink RX5 118 yX5_stageAnew, Cond.instanceMethod yX5_stageAnew]
def wsL_law_r13 : List Cond := [Cond.selects RX5 yX5_stageAnew yX5_stageAnew, Cond.code yX5_stageAnew cX5_stageAnew 2 none, Cond.methodLink RX5 138 yX0_programRow, Cond.methodLink RL 37 yX6_manifest, Cond.instanceMethod yX6_manifest, Cond.selects RX6 yX6_manifest yX6_manifest, Cond.code yX6_manifest cX6_manifest 4 (some .int), Cond.methodLink RX6 105 yX6_isInRange, Cond.instanceMethod yX6_isInRange, Cond.selects RX6 yX6_isInRange yX6_isInRange, Cond.code yX6_isInRange cX6_isInRange 2 (some .boolean), Cond.methodLink RX6 94 yX6_manifestByte, Cond.instanceMethod yX6_manifestByte, Cond.selects RX6 yX6_manifestByte yX6_manifestByte, Cond.code yX6_manifestByte cX6_manifestByte 3 (some .int), Cond.methodLink RX6 98 yX6_isIn, Cond.static yX6_isIn, Cond.code yX6_isIn cX6_isIn 3 (some .boolean), Cond.methodLink RX6 109 yX6_isTagged, Cond.instanceMethod yX6_isTagged, Cond.selects RX6 yX6_isTagged yX6_isTagged, Cond.code yX6_isTagged cX6_isTagged 4 (some .boolean), Cond.methodLink RX6 102 yX6_manifestFour, Cond.instanceMethod yX6_manifestFour]
def wsL_law_r14 : List Cond := [Cond.selects RX6 yX6_manifestFour yX6_manifestFour, Cond.code yX6_manifestFour cX6_manifestFour 5 (some .int), Cond.methodLink RX6 115 yX6_isOld, Cond.instanceMethod yX6_isOld, Cond.selects RX6 yX6_isOld yX6_isOld, Cond.code yX6_isOld cX6_isOld 3 (some .boolean), Cond.methodLink RX6 70 yX6_counterValue, Cond.instanceMethod yX6_counterValue, Cond.selects RX6 yX6_counterValue yX6_counterValue, Cond.code yX6_counterValue cX6_counterValue 3 (some .int), Cond.methodLink RX6 54 yX6_ones, Cond.static yX6_ones, Cond.code yX6_ones cX6_ones 3 (some .int), Cond.methodLink RX6 112 yX6_sequenceOf, Cond.instanceMethod yX6_sequenceOf, Cond.selects RX6 yX6_sequenceOf yX6_sequenceOf, Cond.code yX6_sequenceOf cX6_sequenceOf 2 (some .int), Cond.methodLink RL 38 yX5_block, Cond.instanceMethod yX5_block, Cond.selects RX5 yX5_block yX5_block, Cond.code yX5_block cX5_block 3 (some .int), Cond.methodLink RX5 121 yX5_readStagedManifest, Cond.instanceMethod yX5_readStagedManifest, Cond.selects RX5 yX5_readStagedManifest yX5_readStagedManifest]
def wsL_law_r15 : List Cond := [Cond.code yX5_readStagedManifest cX5_readStagedManifest 1 (some .boolean), Cond.methodLink RX5 227 yX1_readPage, Cond.instanceMethod yX1_readPage, Cond.selects RX1 yX1_readPage yX1_readPage, Cond.code yX1_readPage cX1_readPage 3 none, Cond.methodLink RX5 125 yX1_payloadLength, Cond.methodLink RX5 128 yX5_isBlockOf, Cond.static yX5_isBlockOf, Cond.code yX5_isBlockOf cX5_isBlockOf 2 (some .boolean), Cond.methodLink RX5 230 yX5_blocksOf, Cond.static yX5_blocksOf, Cond.code yX5_blocksOf cX5_blocksOf 1 (some .int), Cond.methodLink RX5 132 yX5_blockLength, Cond.instanceMethod yX5_blockLength, Cond.selects RX5 yX5_blockLength yX5_blockLength, Cond.code yX5_blockLength cX5_blockLength 2 (some .int), Cond.methodLink RX5 233 Lib.Math.min.name, Cond.static Lib.Math.min.name, Cond.initialized "java/lang/Math", Cond.code Lib.Math.min.name Lib.Math.min.code 2 (some .int), Cond.methodLink RX5 135 yX5_isThere, Cond.instanceMethod yX5_isThere, Cond.selects RX5 yX5_isThere yX5_isThere, Cond.code yX5_isThere cX5_isThere 2 (some .boolean)]
def wsL_law_r16 : List Cond := [Cond.methodLink RX5 142 yX0_program, Cond.methodLink RL 41 yX6_block, Cond.instanceMethod yX6_block, Cond.selects RX6 yX6_block yX6_block, Cond.code yX6_block cX6_block 4 (some .int), Cond.methodLink RX6 118 yX6_isRight, Cond.instanceMethod yX6_isRight, Cond.selects RX6 yX6_isRight yX6_isRight, Cond.code yX6_isRight cX6_isRight 1 (some .boolean), Cond.methodLink RX6 121 yX6_blocks, Cond.instanceMethod yX6_blocks, Cond.selects RX6 yX6_blocks yX6_blocks, Cond.code yX6_blocks cX6_blocks 1 (some .int), Cond.methodLink RL 42 yX5_install, Cond.instanceMethod yX5_install, Cond.selects RX5 yX5_install yX5_install, Cond.code yX5_install cX5_install 1 (some .int), Cond.methodLink RX5 152 yX5_isWhollyStaged, Cond.instanceMethod yX5_isWhollyStaged, Cond.selects RX5 yX5_isWhollyStaged yX5_isWhollyStaged, Cond.code yX5_isWhollyStaged cX5_isWhollyStaged 3 (some .boolean), Cond.methodLink RX5 159 yX5_makeImage, Cond.instanceMethod yX5_makeImage, Cond.selects RX5 yX5_makeImage yX5_makeImage]
def wsL_law_r17 : List Cond := [Cond.code yX5_makeImage cX5_makeImage 4 (some .boolean), Cond.methodLink RX5 239 yX0_digestOf, Cond.instanceMethod yX0_digestOf, Cond.selects RX0 yX0_digestOf yX0_digestOf, Cond.code yX0_digestOf cX0_digestOf 5 (some .int), Cond.methodLink RX0 44 yX0_at, Cond.methodLink RX5 242 yX1_payloadDigest, Cond.instanceMethod yX1_payloadDigest, Cond.selects RX1 yX1_payloadDigest yX1_payloadDigest, Cond.code yX1_payloadDigest cX1_payloadDigest 1 (some .int), Cond.methodLink RX5 245 yX1_baseDigest, Cond.instanceMethod yX1_baseDigest, Cond.selects RX1 yX1_baseDigest yX1_baseDigest, Cond.code yX1_baseDigest cX1_baseDigest 1 (some .int), Cond.methodLink RX5 248 yX3_digest, Cond.instanceMethod yX3_digest, Cond.selects RX3 yX3_digest yX3_digest, Cond.code yX3_digest cX3_digest 2 (some .int), Cond.methodLink RX3 27 yX0_word, Cond.instanceMethod yX0_word, Cond.selects RX0 yX0_word yX0_word, Cond.code yX0_word cX0_word 4 (some .int), Cond.methodLink RX5 250 yX3_length, Cond.instanceMethod yX3_length]
def wsL_law_r18 : List Cond := [Cond.selects RX3 yX3_length yX3_length, Cond.code yX3_length cX3_length 2 (some .int), Cond.methodLink RX5 255 yX2_unfold, Cond.instanceMethod yX2_unfold, Cond.selects RX2 yX2_unfold yX2_unfold, Cond.code yX2_unfold cX2_unfold 9 (some .boolean), Cond.methodLink RX2 19 yX0_at, Cond.methodLink RX2 25 yX2_take, Cond.instanceMethod yX2_take, Cond.selects RX2 yX2_take yX2_take, Cond.code yX2_take cX2_take 5 (some .boolean), Cond.methodLink RX2 29 yX2_takeBase, Cond.instanceMethod yX2_takeBase, Cond.selects RX2 yX2_takeBase yX2_takeBase, Cond.code yX2_takeBase cX2_takeBase 6 (some .boolean), Cond.methodLink RX5 262 yX1_imageLength, Cond.methodLink RX5 268 yX1_imageDigest, Cond.instanceMethod yX1_imageDigest, Cond.selects RX1 yX1_imageDigest yX1_imageDigest, Cond.code yX1_imageDigest cX1_imageDigest 1 (some .int), Cond.methodLink RX5 163 yX5_programUpdate, Cond.instanceMethod yX5_programUpdate, Cond.selects RX5 yX5_programUpdate yX5_programUpdate, Cond.code yX5_programUpdate cX5_programUpdate 2 none]
def wsL_law_r19 : List Cond := [Cond.methodLink RX5 271 yX3_programTrials, Cond.instanceMethod yX3_programTrials, Cond.selects RX3 yX3_programTrials yX3_programTrials, Cond.code yX3_programTrials cX3_programTrials 2 none, Cond.methodLink RL 45 yX6_install, Cond.instanceMethod yX6_install, Cond.selects RX6 yX6_install yX6_install, Cond.code yX6_install cX6_install 9 (some .int), Cond.fieldLink RX6 124 "FlashBootModel" "made" "I", Cond.methodLink RX6 67 yX6_four, Cond.instanceMethod yX6_four, Cond.selects RX6 yX6_four yX6_four, Cond.code yX6_four cX6_four 2 (some .int), Cond.methodLink RX6 64 yX6_digestOf, Cond.instanceMethod yX6_digestOf, Cond.selects RX6 yX6_digestOf yX6_digestOf, Cond.code yX6_digestOf cX6_digestOf 5 (some .int), Cond.methodLink RX6 61 yX6_imageAt, Cond.static yX6_imageAt, Cond.code yX6_imageAt cX6_imageAt 1 (some .int), Cond.methodLink RX6 130 yX6_patches, Cond.instanceMethod yX6_patches, Cond.selects RX6 yX6_patches yX6_patches, Cond.code yX6_patches cX6_patches 8 (some .boolean)]
def wsL_law_r20 : List Cond := [Cond.methodLink RX6 127 yX6_add, Cond.instanceMethod yX6_add, Cond.selects RX6 yX6_add yX6_add, Cond.code yX6_add cX6_add 2 none, Cond.methodLink RL 46 yX5_boot, Cond.instanceMethod yX5_boot, Cond.selects RX5 yX5_boot yX5_boot, Cond.code yX5_boot cX5_boot 1 (some .int), Cond.methodLink RX5 167 yX5_slotOnTrial, Cond.instanceMethod yX5_slotOnTrial, Cond.selects RX5 yX5_slotOnTrial yX5_slotOnTrial, Cond.code yX5_slotOnTrial cX5_slotOnTrial 1 (some .int), Cond.methodLink RX5 200 yX5_isGood, Cond.instanceMethod yX5_isGood, Cond.selects RX5 yX5_isGood yX5_isGood, Cond.code yX5_isGood cX5_isGood 2 (some .boolean), Cond.methodLink RX5 281 yX3_isGood, Cond.instanceMethod yX3_isGood, Cond.selects RX3 yX3_isGood yX3_isGood, Cond.code yX3_isGood cX3_isGood 3 (some .boolean), Cond.methodLink RX3 34 yX3_isWhole, Cond.instanceMethod yX3_isWhole, Cond.selects RX3 yX3_isWhole yX3_isWhole, Cond.code yX3_isWhole cX3_isWhole 2 (some .boolean)]
def wsL_law_r21 : List Cond := [Cond.methodLink RX3 37 yX3_length, Cond.methodLink RX3 45 yX3_sequence, Cond.methodLink RX3 48 yX0_digestOf, Cond.methodLink RX3 52 yX3_digest, Cond.methodLink RX5 274 yX3_isOnTrial, Cond.instanceMethod yX3_isOnTrial, Cond.selects RX3 yX3_isOnTrial yX3_isOnTrial, Cond.code yX3_isOnTrial cX3_isOnTrial 2 (some .boolean), Cond.methodLink RX3 30 yX3_isConfirmed, Cond.instanceMethod yX3_isConfirmed, Cond.selects RX3 yX3_isConfirmed yX3_isConfirmed, Cond.code yX3_isConfirmed cX3_isConfirmed 2 (some .boolean), Cond.methodLink RX5 277 yX5_later, Cond.instanceMethod yX5_later, Cond.selects RX5 yX5_later yX5_later, Cond.code yX5_later cX5_later 3 (some .int), Cond.methodLink RX5 170 yX5_slotConfirmed, Cond.instanceMethod yX5_slotConfirmed, Cond.selects RX5 yX5_slotConfirmed yX5_slotConfirmed, Cond.code yX5_slotConfirmed cX5_slotConfirmed 1 (some .int), Cond.methodLink RX5 176 yX3_isConfirmed, Cond.methodLink RX5 173 yX3_useTrial, Cond.instanceMethod yX3_useTrial, Cond.selects RX3 yX3_useTrial yX3_useTrial]
def wsL_law_r22 : List Cond := [Cond.code yX3_useTrial cX3_useTrial 2 none, Cond.methodLink RX3 70 yX0_programLowestBit, Cond.instanceMethod yX0_programLowestBit, Cond.selects RX0 yX0_programLowestBit yX0_programLowestBit, Cond.code yX0_programLowestBit cX0_programLowestBit 3 none, Cond.methodLink RL 49 yX6_boot, Cond.instanceMethod yX6_boot, Cond.selects RX6 yX6_boot yX6_boot, Cond.code yX6_boot cX6_boot 3 (some .int), Cond.methodLink RX6 141 yX6_best, Cond.instanceMethod yX6_best, Cond.selects RX6 yX6_best yX6_best, Cond.code yX6_best cX6_best 5 (some .int), Cond.methodLink RX6 134 yX6_isGood, Cond.instanceMethod yX6_isGood, Cond.selects RX6 yX6_isGood yX6_isGood, Cond.code yX6_isGood cX6_isGood 4 (some .boolean), Cond.methodLink RX6 138 yX6_isConfirmed, Cond.instanceMethod yX6_isConfirmed, Cond.selects RX6 yX6_isConfirmed yX6_isConfirmed, Cond.code yX6_isConfirmed cX6_isConfirmed 2 (some .boolean), Cond.methodLink RX6 145 yX6_lessOne, Cond.static yX6_lessOne, Cond.code yX6_lessOne cX6_lessOne 2 (some .int)]
def wsL_law_r23 : List Cond := [Cond.methodLink RL 50 yX5_confirm, Cond.instanceMethod yX5_confirm, Cond.selects RX5 yX5_confirm yX5_confirm, Cond.code yX5_confirm cX5_confirm 2 (some .int), Cond.methodLink RX5 183 yX5_raiseCounter, Cond.instanceMethod yX5_raiseCounter, Cond.selects RX5 yX5_raiseCounter yX5_raiseCounter, Cond.code yX5_raiseCounter cX5_raiseCounter 3 none, Cond.methodLink RX5 284 yX5_clearCounterBit, Cond.instanceMethod yX5_clearCounterBit, Cond.selects RX5 yX5_clearCounterBit yX5_clearCounterBit, Cond.code yX5_clearCounterBit cX5_clearCounterBit 2 none, Cond.methodLink RX5 287 yX0_programLowestBit, Cond.methodLink RL 53 yX6_confirm, Cond.instanceMethod yX6_confirm, Cond.selects RX6 yX6_confirm yX6_confirm, Cond.code yX6_confirm cX6_confirm 3 (some .int), Cond.methodLink RL 54 yX5_crash, Cond.instanceMethod yX5_crash, Cond.selects RX5 yX5_crash yX5_crash, Cond.code yX5_crash cX5_crash 3 (some .int), Cond.methodLink RX5 186 yX0_setCrash, Cond.instanceMethod yX0_setCrash, Cond.selects RX0 yX0_setCrash yX0_setCrash]
def wsL_law_r24 : List Cond := [Cond.code yX0_setCrash cX0_setCrash 3 none, Cond.methodLink RL 58 yX6_crash, Cond.instanceMethod yX6_crash, Cond.selects RX6 yX6_crash yX6_crash, Cond.code yX6_crash cX6_crash 3 (some .int), Cond.methodLink RL 59 yX5_running, Cond.instanceMethod yX5_running, Cond.selects RX5 yX5_running yX5_running, Cond.code yX5_running cX5_running 1 (some .int), Cond.methodLink RL 62 yX6_running, Cond.instanceMethod yX6_running, Cond.selects RX6 yX6_running yX6_running, Cond.code yX6_running cX6_running 1 (some .int), Cond.methodLink RL 63 yX5_counter, Cond.methodLink RL 66 yX6_counter, Cond.instanceMethod yX6_counter, Cond.selects RX6 yX6_counter yX6_counter, Cond.code yX6_counter cX6_counter 1 (some .int), Cond.methodLink RL 67 yX5_acts, Cond.instanceMethod yX5_acts, Cond.selects RX5 yX5_acts yX5_acts, Cond.code yX5_acts cX5_acts 1 (some .int), Cond.methodLink RL 70 yX6_acts, Cond.instanceMethod yX6_acts]
def wsL_law_r25 : List Cond := [Cond.selects RX6 yX6_acts yX6_acts, Cond.code yX6_acts cX6_acts 1 (some .int), Cond.methodLink RL 71 yX5_byteOf, Cond.instanceMethod yX5_byteOf, Cond.selects RX5 yX5_byteOf yX5_byteOf, Cond.code yX5_byteOf cX5_byteOf 2 (some .int), Cond.methodLink RL 74 yX6_byteOf, Cond.instanceMethod yX6_byteOf, Cond.selects RX6 yX6_byteOf yX6_byteOf, Cond.code yX6_byteOf cX6_byteOf 2 (some .int), Cond.methodLink RL 75 yX5_good, Cond.instanceMethod yX5_good, Cond.selects RX5 yX5_good yX5_good, Cond.code yX5_good cX5_good 2 (some .int), Cond.methodLink RL 78 yX6_good, Cond.instanceMethod yX6_good, Cond.selects RX6 yX6_good yX6_good, Cond.code yX6_good cX6_good 2 (some .int)]
def wsL_law : List Cond := (wsL_law_r1 ++ (wsL_law_r2 ++ (wsL_law_r3 ++ (wsL_law_r4 ++ (wsL_law_r5 ++ (wsL_law_r6 ++ (wsL_law_r7 ++ (wsL_law_r8 ++ (wsL_law_r9 ++ (wsL_law_r10 ++ (wsL_law_r11 ++ (wsL_law_r12 ++ (wsL_law_r13 ++ (wsL_law_r14 ++ (wsL_law_r15 ++ (wsL_law_r16 ++ (wsL_law_r17 ++ (wsL_law_r18 ++ (wsL_law_r19 ++ (wsL_law_r20 ++ (wsL_law_r21 ++ (wsL_law_r22 ++ (wsL_law_r23 ++ (wsL_law_r24 ++ wsL_law_r25)))))))))))))))))))))))) ++ wsX50 ++ wsX60 ++ wsX00 ++ wsX40 ++ wsX30 ++ wsX10 ++ wsX20 ++ ([] : List Cond)
abbrev vwCl : List vw_C := [(RX0, TX0, 6), (RX1, TX1, 1), (RX2, TX2, 2), (RX3, TX3, 3), (RX4, TX4, 2), (RX5, TX5, 9), (RX6, TX6, 13)]
end
section
-- what every walk below uses: the nest's words, two forms of contract (a method that only reads, a method that writes in place), their entries and calls
def zNest : List Cond := [.fieldLinkNest RX5 71 RX0 "power" "Z" RX5, .fieldLinkNest RX5 197 RX0 "actsDone" "I" RX5, .methodLinkNest RX5 18 yX4_init RX5, .fieldLinkNest RX1 15 RX4 "bytes" "[I" RX5, .fieldLinkNest RX5 89 RX4 "bytes" "[I" RX5, .fieldLinkNest RX5 68 RX4 "length" "I" RX5, .fieldLinkNest RX5 252 RX3 "start" "I" RX5, .methodLinkNest RX5 37 yX1_init RX5, .fieldLinkNest RX5 226 RX1 "bytes" "[I" RX5, .methodLinkNest RX5 44 yX2_init RX5, .fieldLinkNest RX5 265 RX2 "image" "[I" RX5, .fieldLinkNest RX5 259 RX2 "made" "I" RX5, .methodLinkNest RX0 40 yX5_byteOfWord RX5, .methodLinkNest RX1 37 yX5_isSequence RX5, .methodLinkNest RX1 44 yX5_isLength RX5, .methodLinkNest RX1 50 yX5_digest RX5, .methodLinkNest RX0 48 yX5_digestByte RX5, .methodLinkNest RX3 41 yX5_isLength RX5]
def zN (U : State) : Prop := ∀ w ∈ zNest, va_Nw w U
theorem zNest_on : zNest.all (fun w => w.onTables) = true := by decide +kernel
theorem zN_moved {u U : State} (h : u.vm = U.vm) (hN : zN u) : zN U := fun w hw => va_Nw.same (List.all_eq_true.mp zNest_on w hw) h (hN w hw)
theorem zN_warm {s U : State} (hW : s.WarmedH U.vm) (hN : zN s) : zN U := by
  simp only [zN, zNest, List.forall_mem_cons] at hN ⊢
  obtain ⟨h0, h1, h2, h3, h4, h5, h6, h7, h8, h9, h10, h11, h12, h13, h14, h15, h16, h17, h18⟩ := hN
  exact ⟨va_Nw.warmF hW h0, va_Nw.warmF hW h1, va_Nw.warmM hW h2, va_Nw.warmF hW h3, va_Nw.warmF hW h4, va_Nw.warmF hW h5, va_Nw.warmF hW h6, va_Nw.warmM hW h7, va_Nw.warmF hW h8, va_Nw.warmM hW h9, va_Nw.warmF hW h10, va_Nw.warmF hW h11, va_Nw.warmM hW h12, va_Nw.warmM hW h13, va_Nw.warmM hW h14, va_Nw.warmM hW h15, va_Nw.warmM hW h16, va_Nw.warmM hW h17, fun _ h => absurd h List.not_mem_nil⟩
theorem zN_at {s : State} (hN : zN s) (i : Nat) {w : Cond} (h : zNest[i]? = some w) : va_Nw w s := hN w (List.mem_of_getElem? h)
theorem zN_use {s : State} {args : Array Value} (hN : zN s) (i : Nat) {w : Cond} (h : zNest[i]? = some w) : w.before args s = true := va_Nw.use (List.all_eq_true.mp zNest_on w (List.mem_of_getElem? h)) (zN_at hN i h)
theorem zN_law {s : State} {args : Array Value} (hts : ∀ w ∈ lw_tbl, w.before args s = true) (hin : ∀ w ∈ zNest, w ∈ lw_tbl) : zN s := fun w hw => va_Nw.of (List.all_eq_true.mp zNest_on w hw) (hts w (hin w hw))
-- contracts
def zBR (D : va_G) (cI : ClassId) (ws : va_W) (U : State) : Prop := va_P D vwCl ws U.heap ∧ va_K D vwCl [(cI, .int)] U ∧ zN U
def zBW (D : va_G) (cI : ClassId) (ws : va_W) (sz : Nat) (U : State) : Prop := U.heap.size = sz ∧ va_P D vwCl ws U.heap ∧ va_K D vwCl [(cI, .int)] U ∧ va_D (fun _ => True) ws ∧ zN U
def zR (v : Value) : Array Value → State → Outcome → State → Prop := fun _ st o t => o = .returned (some v) ∧ t.heap = st.heap
def zW {S : Type} (D : va_G) (f : S) (rv : S → Option Value) (Wn : S → va_W) (A : Nat → Prop) : Array Value → State → Outcome → State → Prop := fun _ st o t => (∃ u : S, u = f ∧ o = .returned (rv u) ∧ va_P D vwCl (Wn u) t.heap) ∧ va_F A st t
def zMR (l : Launch) (D : va_G) (cI : ClassId) (y : MethodName) (w : List Cond) (rm : Room) (av : List Value) (ws : va_W) (v : Value) : Prop := Met l y w rm (va_Pc av (zBR D cI ws)) (zR v) 0 0 (fun _ => False)
def zMW {S : Type} (l : Launch) (D : va_G) (cI : ClassId) (y : MethodName) (w : List Cond) (rm : Room) (av : List Value) (ws : va_W) (f : S) (rv : S → Option Value) (Wn : S → va_W) : Prop := ∀ sz : Nat, Met l y w rm (va_Pc av (zBW D cI ws sz)) (zW D f rv Wn (va_A ws sz)) 0 0 (va_A ws sz)
theorem zBR_blind {D : va_G} {cI : ClassId} {ws : va_W} {av : List Value} : FrameBlind (va_Pc av (zBR D cI ws)) := fun a U g mk q => by
  obtain ⟨q0, qP, qK, qN⟩ := q
  exact ⟨q0, qP, va_K.moved (u := U) (U := U.calling g mk a) (Vm.Alike.refl U.vm) qK, zN_moved (u := U) (U := U.calling g mk a) rfl qN⟩
theorem zBW_blind {D : va_G} {cI : ClassId} {ws : va_W} {sz : Nat} {av : List Value} : FrameBlind (va_Pc av (zBW D cI ws sz)) := fun a U g mk q => by
  obtain ⟨q0, q1, qP, qK, qD, qN⟩ := q
  exact ⟨q0, q1, qP, va_K.moved (u := U) (U := U.calling g mk a) (Vm.Alike.refl U.vm) qK, qD, zN_moved (u := U) (U := U.calling g mk a) rfl qN⟩
theorem va_D_same {A : Nat → Prop} {ws ws' : va_W} (h : va_D A ws) (hf : ws'.map Prod.fst = ws.map Prod.fst) : va_D A ws' := by
  have key : ∀ (k : Nat) (q : Nat × va_E), ws'[k]? = some q → ∃ q2, ws[k]? = some q2 ∧ q2.1 = q.1 := by
    intro k q hk
    have h1 : (ws'.map Prod.fst)[k]? = some q.1 := by rw [List.getElem?_map, hk]; rfl
    rw [hf, List.getElem?_map] at h1
    cases h2 : ws[k]? with
    | none => rw [h2] at h1; cases h1
    | some q2 => rw [h2] at h1; exact ⟨q2, rfl, Option.some.inj h1⟩
  refine ⟨fun i j x y hi hj hxy => ?_, fun k q hk => ?_⟩
  · obtain ⟨x2, a1, a2⟩ := key i x hi
    obtain ⟨y2, b1, b2⟩ := key j y hj
    exact h.1 i j x2 y2 a1 b1 (by rw [a2, b2]; exact hxy)
  · obtain ⟨q2, a1, a2⟩ := key k q hk
    rw [← a2]
    exact h.2 k q2 a1
/-- behind a call that leaves each cell in its place: the callee's cells as it says, the others as they were -/
theorem z_place {D : va_G} {A0 : Nat → Prop} {ws wc wn ws' : va_W} {H H1 : Heap} (hP : va_P D vwCl ws H) (hD : va_D A0 ws) (isC isR : List Nat) (hC : isC.map (fun i => ws[i]?) = wc.map some) (hR : isR.map (fun i => ws'[i]?) = isR.map (fun i => ws[i]?)) (hN : isC.map (fun i => ws'[i]?) = wn.map some)
    (hf : ws'.map Prod.fst = ws.map Prod.fst) (hco : (List.range ws.length).all (fun i => isC.contains i || (isR.contains i && !isC.contains i)) = true) (hk : ∀ q : Nat, q < H.size → ¬ va_A wc H.size q → H1[q]? = H[q]?) (hP1 : va_P D vwCl wn H1) : va_P D vwCl ws' H1 := by
  have hlen : ws'.length = ws.length := by rw [← List.length_map (f := Prod.fst), hf, List.length_map]
  intro k q hq
  have hkl : k < ws.length := by rw [← hlen]; exact (List.getElem?_eq_some_iff.mp hq).1
  have h1 := List.all_eq_true.mp hco k (List.mem_range.mpr hkl)
  by_cases hc : isC.contains k = true
  · obtain ⟨j, hj⟩ := List.getElem?_of_mem (List.contains_iff_mem.mp hc)
    have h2 : (isC.map (fun i => ws'[i]?))[j]? = some (some q) := by rw [List.getElem?_map, hj, ← hq]; rfl
    rw [hN, List.getElem?_map] at h2
    cases h3 : wn[j]? with
    | none => rw [h3] at h2; cases h2
    | some q2 => rw [h3] at h2; exact hP1 j q (by rw [h3]; exact Option.some.inj h2)
  · have hr : isR.contains k = true := by
      cases h9 : isC.contains k
      · rw [h9] at h1; simp only [Bool.false_or, Bool.not_false, Bool.and_true] at h1; exact h1
      · exact absurd h9 hc
    obtain ⟨j, hj⟩ := List.getElem?_of_mem (List.contains_iff_mem.mp hr)
    have h2 : (isR.map (fun i => ws'[i]?))[j]? = some (some q) := by rw [List.getElem?_map, hj, ← hq]; rfl
    rw [hR, List.getElem?_map, hj] at h2
    have h3 : ws[k]? = some q := Option.some.inj h2
    refine (hP k q h3).kept (hk q.1 (hP k q h3).lt (fun h => ?_))
    rcases h with ⟨k2, e, h⟩ | h
    · have h4 : (isC.map (fun i => ws[i]?))[k2]? = some (some (q.1, e)) := by rw [hC, List.getElem?_map, h]; rfl
      rw [List.getElem?_map] at h4
      cases hi : isC[k2]? with
      | none => rw [hi] at h4; cases h4
      | some i =>
        rw [hi] at h4
        have h5 : ws[i]? = some (q.1, e) := Option.some.inj h4
        have h6 := hD.1 k i q (q.1, e) h3 h5 rfl
        subst h6
        exact hc (List.contains_iff_mem.mpr (List.mem_of_getElem? hi))
    · have := (hP k q h3).lt
      omega
section ZC
variable {p : Program} {l : Launch} {e : Env} {R : Room} {s : State} {m : MethodId} {args : Array Value} {below : List Frame} {meth : Method} {c : Code} {H : Heap} {locs : List Loc} {cells slots : Nat} {Q : State → Prop}
variable {pc : Nat} {ls : Array Slot} {rest st0 : List Value} {a : Array Value} {A0 A1 : Nat → Prop} {H0 : Heap} {free : Addr → Prop} {D : va_G} {cI : ClassId} {ws wc : va_W}
theorem z_runR {v : Value} (hr : va_Run p l e R s m args below meth c H locs cells slots 0 0 (F0 m pc ls st0) rest (zR v a) (fun _ => False)) (kk : W p l e R s m args below meth c H locs cells slots Q (F0 m (pc + 3) ls (v :: rest))) : W p l e R s m args below meth c H locs cells slots Q (F0 m pc ls st0) := by
  intro T hT X
  obtain ⟨v', st₀, t, T', L, h0, X', hL, e1, e2, ⟨hv, hh⟩, st⟩ := hr T hT X
  cases hv
  obtain ⟨t2, a1, b1⟩ := kk T' (by rw [e1, hh, h0]) (Stand.forget X' (fun q h => (hL q h).elim))
  exact ⟨t2, st t2 a1, b1⟩
theorem z_runW {S : Type} {f : S} {rv : S → Option Value} {Wn : S → va_W} (hr : va_Run p l e R s m args below meth c H locs cells slots 0 0 (F0 m pc ls st0) rest (zW D f rv Wn A1 a) free) (hS : va_S A0 H0 H locs) (hA : ∀ q, q < H.size → A1 q → A0 q) (hf : ∀ q, free q → A0 q)
    (kk : ∀ (u : S) (H1 : Heap) (locs1 : List Loc), u = f → va_P D vwCl (Wn u) H1 → (∀ q : Nat, q < H.size → ¬ A1 q → H1[q]? = H[q]?) → va_S A0 H0 H1 locs1 → W p l e R s m args below meth c H1 locs1 cells slots Q (F0 m (pc + 3) ls ((rv u).toList ++ rest))) : W p l e R s m args below meth c H locs cells slots Q (F0 m pc ls st0) := by
  intro T hT X
  obtain ⟨v, st₀, t, T', L, h0, X', hL, e1, e2, ⟨⟨u, hu, hv, hb⟩, hz, hk⟩, st⟩ := hr T hT X
  cases hv
  rw [h0] at hz hk
  obtain ⟨t2, a1, b1⟩ := kk u T'.heap (locs ++ L) hu (by rw [e1]; exact hb) (fun q h1 h2 => by rw [e1]; exact hk q h1 h2)
    ⟨Nat.le_trans hS.1 (by rw [e1]; exact hz), fun q h1 h2 => by rw [e1, hk q (Nat.lt_of_lt_of_le h1 hS.1) (fun z => h2 (hA q (Nat.lt_of_lt_of_le h1 hS.1) z))]; exact hS.2.1 q h1 h2, fun q hq => by
      rcases List.mem_append.mp hq with h | h
      · exact hS.2.2 q h
      · exact hf _ (hL q h)⟩ T' rfl X'
  exact ⟨t2, st t2 a1, b1⟩
variable {y : MethodName} {bytes cc : ByteArray} {maxL nL n index : Nat} {ret : Option FieldType} {w : List Cond} {rm : Room} {Ts : List Cond} {own C host : String} {b : Addr} {As : List Value}
theorem zVR {v : Value} (S : CallFix p m c cc nL s args Ts own) (hM : zMR l D cI y w rm (.ref b :: As) wc v) (cw : CallW R s args own C index y bytes maxL ret w rm 0 0 n)
    (hP : va_P D vwCl ws H) (hK : va_K D vwCl [(cI, .int)] s) (hN : zN s) (isC : List Nat) (hC : isC.filterMap (fun i => ws[i]?) = wc) (recv : ∃ cell : Cell, H[b]? = some cell ∧ cell.vm.isStatics = false ∧ s.vm.findClass C = some cell.cls)
    (hn : As.length = n) (hsize : ls.size = nL) (hst : st0 = As.reverse ++ .ref b :: rest) (hW : (rest.map fun v => v.category).sum ≤ 8) (hdg : decode cc pc = .ok (.invokevirtual index, 3)) (hf : cells ≤ R.cells ∧ slots ≤ R.slots)
    (kk : W p l e R s m args below meth c H locs cells slots Q (F0 m (pc + 3) ls (v :: rest))) : W p l e R s m args below meth c H locs cells slots Q (F0 m pc ls st0) :=
  z_runR (va_runV S hM cw ⟨zBR_blind, recv, fun U hU hW => ⟨rfl, by rw [hU]; exact hP.sub isC hC, va_K.moved hW.alike hK, zN_warm hW hN⟩⟩ rfl hn hsize hst (lv_room hW) hdg hf) kk
theorem zSR {v : Value} (S : CallFix p m c cc nL s args Ts own) (hM : zMR l D cI y w rm As wc v) (cw : CallB R s args own index y bytes maxL ret w rm 0 0 n ∧ (Cond.static y).before args s = true)
    (hP : va_P D vwCl ws H) (hK : va_K D vwCl [(cI, .int)] s) (hN : zN s) (isC : List Nat) (hC : isC.filterMap (fun i => ws[i]?) = wc)
    (hn : As.length = n) (hsize : ls.size = nL) (hst : st0 = As.reverse ++ rest) (hW : (rest.map fun v => v.category).sum ≤ 8) (hdg : decode cc pc = .ok (.invokestatic index, 3)) (hf : cells ≤ R.cells ∧ slots ≤ R.slots)
    (kk : W p l e R s m args below meth c H locs cells slots Q (F0 m (pc + 3) ls (v :: rest))) : W p l e R s m args below meth c H locs cells slots Q (F0 m pc ls st0) :=
  z_runR (va_runS S hM cw ⟨zBR_blind, fun U hU hW => ⟨rfl, by rw [hU]; exact hP.sub isC hC, va_K.moved hW.alike hK, zN_warm hW hN⟩⟩ rfl hn hsize hst (lv_room hW) hdg hf) kk
theorem zNR {v : Value} (S : CallFix p m c cc nL s args Ts own) (hM : zMR l D cI y w rm As wc v) (cw : va_CN R s args own index y host bytes maxL ret w rm 0 0 n ∧ (Cond.static y).before args s = true ∧ True)
    (hP : va_P D vwCl ws H) (hK : va_K D vwCl [(cI, .int)] s) (hN : zN s) (isC : List Nat) (hC : isC.filterMap (fun i => ws[i]?) = wc)
    (hn : As.length = n) (hsize : ls.size = nL) (hst : st0 = As.reverse ++ rest) (hW : (rest.map fun v => v.category).sum ≤ 8) (hdg : decode cc pc = .ok (.invokestatic index, 3)) (hf : cells ≤ R.cells ∧ slots ≤ R.slots)
    (kk : W p l e R s m args below meth c H locs cells slots Q (F0 m (pc + 3) ls (v :: rest))) : W p l e R s m args below meth c H locs cells slots Q (F0 m pc ls st0) :=
  z_runR (va_runSN S hM cw ⟨zBR_blind, fun U hU hW => ⟨rfl, by rw [hU]; exact hP.sub isC hC, va_K.moved hW.alike hK, zN_warm hW hN⟩⟩ rfl hn hsize hst (lv_room hW) hdg hf) kk
theorem zVW {S0 : Type} {f : S0} {rv : S0 → Option Value} {Wn ws' : S0 → va_W} (S : CallFix p m c cc nL s args Ts own) (hM : zMW l D cI y w rm (.ref b :: As) wc f rv Wn) (cw : CallW R s args own C index y bytes maxL ret w rm 0 0 n)
    (hP : va_P D vwCl ws H) (hK : va_K D vwCl [(cI, .int)] s) (hN : zN s) (hD : va_D A0 ws) (hS : va_S A0 H0 H locs) (hA : ∀ q, H0.size ≤ q → A0 q) (isC isR : List Nat) (hC : isC.map (fun i => ws[i]?) = wc.map some) (hnd : va_nd isC = true) (hR : ∀ u, isR.map (fun i => (ws' u)[i]?) = isR.map (fun i => ws[i]?)) (hN1 : ∀ u, isC.map (fun i => (ws' u)[i]?) = (Wn u).map some)
    (hfst : ∀ u, (ws' u).map Prod.fst = ws.map Prod.fst) (hco : (List.range ws.length).all (fun i => isC.contains i || (isR.contains i && !isC.contains i)) = true) (recv : ∃ cell : Cell, H[b]? = some cell ∧ cell.vm.isStatics = false ∧ s.vm.findClass C = some cell.cls)
    (hn : As.length = n) (hsize : ls.size = nL) (hst : st0 = As.reverse ++ .ref b :: rest) (hW : (rest.map fun v => v.category).sum ≤ 8) (hdg : decode cc pc = .ok (.invokevirtual index, 3)) (hf : cells ≤ R.cells ∧ slots ≤ R.slots)
    (kk : ∀ (u : S0) (H1 : Heap) (locs1 : List Loc), u = f → va_P D vwCl (ws' u) H1 → va_D A0 (ws' u) → va_S A0 H0 H1 locs1 → W p l e R s m args below meth c H1 locs1 cells slots Q (F0 m (pc + 3) ls ((rv u).toList ++ rest))) : W p l e R s m args below meth c H locs cells slots Q (F0 m pc ls st0) := by
  have hF := va_free hD hS hA isC hC
  have hPc : va_P D vwCl wc H := hP.sub isC (by
    have h9 : ∀ (l1 : List Nat) (l2 : va_W), l1.map (fun i => ws[i]?) = l2.map some → l1.filterMap (fun i => ws[i]?) = l2 := by
      intro l1
      induction l1 with
      | nil => intro l2 h; cases l2 with
        | nil => rfl
        | cons _ _ => cases h
      | cons x l1 ih => intro l2 h; cases l2 with
        | nil => cases h
        | cons z l2 =>
          simp only [List.map_cons, List.cons.injEq] at h
          rw [List.filterMap_cons, h.1, ih l2 h.2]
    exact h9 _ _ hC)
  have hDc : va_D A0 wc := hD.sub isC hnd hC
  refine z_runW (A1 := va_A wc H.size) (free := va_A wc H.size) (va_runV S (hM H.size) cw ⟨zBW_blind, recv, fun U hU hW => ⟨rfl, by rw [hU], by rw [hU]; exact hPc, va_K.moved hW.alike hK, hDc.weaken (fun _ _ _ _ => trivial), zN_warm hW hN⟩⟩ rfl hn hsize hst (lv_room hW) hdg hf) hS (fun q _ h => hF q h) hF (fun u H1 locs1 hu hP1 hk hS1 => ?_)
  exact kk u H1 locs1 hu (z_place hP hD isC isR hC (hR u) (hN1 u) (hfst u) hco hk hP1) (va_D_same hD (hfst u)) hS1
end ZC
-- entries
theorem zEntR {l : Launch} {D : va_G} {cI : ClassId} {y : MethodName} {w w' : List Cond} {rm : Room} {av : List Value} {ws : va_W} {v : Value} {cc : ByteArray} {maxL : Nat} {ret : Option FieldType} {own : String} {lvs : List (Nat × Value)} (hy : plainName y.cls = true) (hw : w = Cond.code y cc maxL ret :: w') (hown0 : y.cls = own) (hrc : rm.cells = 0) (hrs : rm.slots = 0) (hmax : (lg_sl av).length ≤ maxL) (hlv : lv_args 0 av = lvs)
    (body : ∀ (p : Program) (e : Env) (s : State) (m : MethodId) (args : Array Value) (below : List Frame) (meth : Method) (c : Code) (Q : State → Prop) (ls : Array Slot), p.tables.exec = Jvm.exec → c.code = cc → c.maxLocals = maxL → (∀ q ∈ w, q.before args s = true) → s.vm.findClass own = some m.cls → va_P D vwCl ws s.heap → va_K D vwCl [(cI, .int)] s → zN s → lv_has ls maxL lvs →
      (∀ (pc : Nat) (ls : Array Slot) (z : Int32) (ty : FieldType), decode cc pc = .ok (.ireturn, 1) → ret = some ty → narrow ty (.int z) = .int z → Value.int z = v → W p l e rm s m args below meth c s.heap [] 0 0 Q (F0 m pc ls [.int z])) →
      (∀ (pc : Nat) (ls : Array Slot) (q : Nat) (nm : String), decode cc pc = .ok (.areturn, 1) → ret = some (.object nm) → Value.ref q = v → W p l e rm s m args below meth c s.heap [] 0 0 Q (F0 m pc ls [.ref q])) →
      W p l e rm s m args below meth c s.heap [] 0 0 Q (F0 m 0 ls [])) : zMR l D cI y w rm av ws v := by
  refine Met.ofW (cc := cc) (maxL := maxL) (ret := ret) hy hw ?_
  intro p e s m args below meth c s₁ B hml hv
  obtain ⟨ha, hP, hK, hN⟩ := hv
  subst ha
  have hx := B.exec
  have hb := B.bytes
  have hr := B.returns
  have hts := atoms_spec (ws := w) B.pre
  have hown : s.vm.findClass own = some m.cls := by rw [← hown0]; exact findClass_of_methodNamed B.named
  have hlocks := B.notSynchronized
  have hl := lv_entry av (n := maxL) hmax
  rw [hlv] at hl
  rw [lg_entry_eq]
  have hroom : (headSpec w rm).room = rm := rfl
  rw [hroom]
  refine body p e s m _ below meth c _ _ hx hb hml hts hown hP hK hN hl ?_ ?_
  · intro pc ls z ty hd hty hn hz
    exact W.zret (v := z) hx hb (hr.trans hty) hn (fun t ht hW => ⟨by rw [hz], ht⟩) (fun _ h => absurd h List.not_mem_nil) hd
  · intro pc ls q nm hd hty hz
    exact W.aret (v := .ref q) hx hb (hr.trans hty) (Or.inl ⟨nm, rfl⟩) (Or.inr ⟨q, rfl⟩) (fun t ht hW => ⟨by rw [hz], ht⟩) (fun _ h => absurd h List.not_mem_nil) hd
theorem zEntW {S : Type} {l : Launch} {D : va_G} {cI : ClassId} {y : MethodName} {w w' : List Cond} {rm : Room} {av : List Value} {ws : va_W} {f : S} {rv : S → Option Value} {Wn : S → va_W} {cc : ByteArray} {maxL : Nat} {ret : Option FieldType} {own : String} {lvs : List (Nat × Value)} (hy : plainName y.cls = true) (hw : w = Cond.code y cc maxL ret :: w') (hown0 : y.cls = own) (hmax : (lg_sl av).length ≤ maxL) (hlv : lv_args 0 av = lvs)
    (body : ∀ (p : Program) (e : Env) (s : State) (m : MethodId) (args : Array Value) (below : List Frame) (meth : Method) (c : Code) (Q : State → Prop) (ls : Array Slot) (A : Nat → Prop), p.tables.exec = Jvm.exec → c.code = cc → c.maxLocals = maxL → (∀ q ∈ w, q.before args s = true) → s.vm.findClass own = some m.cls → va_P D vwCl ws s.heap → va_K D vwCl [(cI, .int)] s → zN s → va_D A ws → va_S A s.heap s.heap [] → (∀ q, s.heap.size ≤ q → A q) → lv_has ls maxL lvs →
      (∀ (pc : Nat) (ls : Array Slot) (H : Heap) (locs : List Loc) (u : S) (z : Int32) (ty : FieldType), decode cc pc = .ok (.ireturn, 1) → ret = some ty → narrow ty (.int z) = .int z → rv u = some (.int z) → u = f → va_P D vwCl (Wn u) H → va_S A s.heap H locs → W p l e rm s m args below meth c H locs 0 0 Q (F0 m pc ls [.int z])) →
      (∀ (pc : Nat) (ls : Array Slot) (H : Heap) (locs : List Loc) (u : S), decode cc pc = .ok (.return_, 1) → ret = none → rv u = none → u = f → va_P D vwCl (Wn u) H → va_S A s.heap H locs → W p l e rm s m args below meth c H locs 0 0 Q (F0 m pc ls [])) →
      W p l e rm s m args below meth c s.heap [] 0 0 Q (F0 m 0 ls [])) : zMW l D cI y w rm av ws f rv Wn := by
  intro sz
  refine Met.ofW (cc := cc) (maxL := maxL) (ret := ret) hy hw ?_
  intro p e s m args below meth c s₁ B hml hv
  obtain ⟨ha, hsz, hP, hK, hD0, hN⟩ := hv
  subst ha
  subst hsz
  have hx := B.exec
  have hb := B.bytes
  have hr := B.returns
  have hts := atoms_spec (ws := w) B.pre
  have hown : s.vm.findClass own = some m.cls := by rw [← hown0]; exact findClass_of_methodNamed B.named
  have hlocks := B.notSynchronized
  have hl := lv_entry av (n := maxL) hmax
  rw [hlv] at hl
  rw [lg_entry_eq]
  have hroom : (headSpec w rm).room = rm := rfl
  rw [hroom]
  refine body p e s m _ below meth c _ _ (va_A ws s.heap.size) hx hb hml hts hown hP hK hN hD0.self va_S.rf (fun q h => Or.inr h) hl ?_ ?_
  · intro pc ls H locs u z ty hd hty hn hz hu hPu hSu
    exact W.zret (v := z) hx hb (hr.trans hty) hn (fun t ht hW => ⟨⟨u, hu, by rw [hz], by rw [ht]; exact hPu⟩, hSu.F ht⟩) hSu.2.2 hd
  · intro pc ls H locs u hd hty hz hu hPu hSu
    exact W.vret hx hb (hr.trans hty) (fun t ht hW => ⟨⟨u, hu, by rw [hz], by rw [ht]; exact hPu⟩, hSu.F ht⟩) hSu.2.2 hd
-- rows with plain numbers
section ZN
variable {p : Program} {l : Launch} {e : Env} {R : Room} {s : State} {m : MethodId} {args : Array Value} {below : List Frame} {meth : Method} {c : Code} {H : Heap} {locs : List Loc} {cells slots : Nat} {Q : State → Prop}
variable {cc : ByteArray} {pc : Nat} {ls : Array Slot} {rest : List Value} {D : va_G} {cl : List vw_C} {tys : List (ClassId × FieldType)} {ws : va_W} {a : Nat} {A : Nat → Prop} {H0 : Heap}
theorem z_top {x v : Int32} (hv : x = v) (k : W p l e R s m args below meth c H locs cells slots Q (F0 m pc ls (.int v :: rest))) : W p l e R s m args below meth c H locs cells slots Q (F0 m pc ls (.int x :: rest)) := by rw [hv]; exact k
theorem z_iald (hexec : p.tables.exec = Jvm.exec) (hb : c.code = cc) (hK : va_K D cl tys s) (hP : va_P D cl ws H) (q0 t0 : Nat) {cA : ClassId} {n : Nat} {f : Nat → Int32} (ha : ws[q0]? = some (a, .inl (cA, n, .inl f))) (ht : tys[t0]? = some (cA, .int)) (k : Nat) {i : Int32} (hi : i = nI k) (hk : k < n) (hn : n < 2 ^ 31) (hdg : decode cc pc = .ok (.iaload, 1))
    (kk : W p l e R s m args below meth c H locs cells slots Q (F0 m (pc + 1) ls (.int (f k) :: rest))) : W p l e R s m args below meth c H locs cells slots Q (F0 m pc ls (.int i :: .ref a :: rest)) := by
  subst hi
  refine va_iald hexec hb hK hP q0 t0 ha ht (vp_in_nI hk hn) hdg ?_
  rw [nI_clamp (by omega)]
  exact kk
theorem z_iast (hexec : p.tables.exec = Jvm.exec) (hb : c.code = cc) (hK : va_K D cl tys s) (hP : va_P D cl ws H) (hD : va_D A ws) (hS : va_S A H0 H locs) (q0 t0 : Nat) {cA : ClassId} {n : Nat} {f : Nat → Int32} (ha : ws[q0]? = some (a, .inl (cA, n, .inl f))) (ht : tys[t0]? = some (cA, .int)) (k : Nat) {i x : Int32} (hi : i = nI k) (hk : k < n) (hn : n < 2 ^ 31) (hdg : decode cc pc = .ok (.iastore, 1))
    (kk : ∀ (H1 : Heap) (locs1 : List Loc), va_P D cl (ws.set q0 (a, .inl (cA, n, .inl (upd f k x)))) H1 → va_D A (ws.set q0 (a, .inl (cA, n, .inl (upd f k x)))) → va_S A H0 H1 locs1 → W p l e R s m args below meth c H1 locs1 cells slots Q (F0 m (pc + 1) ls rest)) : W p l e R s m args below meth c H locs cells slots Q (F0 m pc ls (.int x :: .int i :: .ref a :: rest)) := by
  subst hi
  refine va_iast hexec hb hK hP hD hS q0 t0 ha ht (vp_in_nI hk hn) hdg ?_
  rw [nI_clamp (by omega)]
  exact kk
theorem z_icmp_ge (hexec : p.tables.exec = Jvm.exec) (hb : c.code = cc) {x y : Int32} {off : Int} {tgt : Nat} (hdg : decode cc pc = .ok (.if_icmp .ge off, 3)) (ht : (pc : Int) + off = (tgt : Int)) (i j : Nat) (hx : x = nI i) (hy : y = nI j) (hi : i < 2 ^ 31) (hj : j < 2 ^ 31)
    (kt : j ≤ i → W p l e R s m args below meth c H locs cells slots Q (F0 m tgt ls rest)) (kf : i < j → W p l e R s m args below meth c H locs cells slots Q (F0 m (pc + 3) ls rest)) : W p l e R s m args below meth c H locs cells slots Q (F0 m pc ls (.int y :: .int x :: rest)) := by
  subst hx; subst hy
  exact lv_icmp_ge hexec hb hdg ht (fun h => kt ((nI_leI hj hi).mp h)) (fun h => kf (Nat.lt_of_not_le (fun q => h ((nI_leI hj hi).mpr q))))
theorem z_icmp_gt (hexec : p.tables.exec = Jvm.exec) (hb : c.code = cc) {x y : Int32} {off : Int} {tgt : Nat} (hdg : decode cc pc = .ok (.if_icmp .gt off, 3)) (ht : (pc : Int) + off = (tgt : Int)) (i j : Nat) (hx : x = nI i) (hy : y = nI j) (hi : i < 2 ^ 31) (hj : j < 2 ^ 31)
    (kt : j < i → W p l e R s m args below meth c H locs cells slots Q (F0 m tgt ls rest)) (kf : i ≤ j → W p l e R s m args below meth c H locs cells slots Q (F0 m (pc + 3) ls rest)) : W p l e R s m args below meth c H locs cells slots Q (F0 m pc ls (.int y :: .int x :: rest)) := by
  subst hx; subst hy
  exact lv_icmp_gt hexec hb hdg ht (fun h => kt ((nI_ltI hj hi).mp h)) (fun h => kf (Nat.le_of_not_lt (fun q => h ((nI_ltI hj hi).mpr q))))
theorem z_icmp_lt (hexec : p.tables.exec = Jvm.exec) (hb : c.code = cc) {x y : Int32} {off : Int} {tgt : Nat} (hdg : decode cc pc = .ok (.if_icmp .lt off, 3)) (ht : (pc : Int) + off = (tgt : Int)) (i j : Nat) (hx : x = nI i) (hy : y = nI j) (hi : i < 2 ^ 31) (hj : j < 2 ^ 31)
    (kt : i < j → W p l e R s m args below meth c H locs cells slots Q (F0 m tgt ls rest)) (kf : j ≤ i → W p l e R s m args below meth c H locs cells slots Q (F0 m (pc + 3) ls rest)) : W p l e R s m args below meth c H locs cells slots Q (F0 m pc ls (.int y :: .int x :: rest)) := by
  subst hx; subst hy
  exact lv_icmp_lt hexec hb hdg ht (fun h => kt ((nI_ltI hi hj).mp h)) (fun h => kf (Nat.le_of_not_lt (fun q => h ((nI_ltI hi hj).mpr q))))
theorem z_icmp_le (hexec : p.tables.exec = Jvm.exec) (hb : c.code = cc) {x y : Int32} {off : Int} {tgt : Nat} (hdg : decode cc pc = .ok (.if_icmp .le off, 3)) (ht : (pc : Int) + off = (tgt : Int)) (i j : Nat) (hx : x = nI i) (hy : y = nI j) (hi : i < 2 ^ 31) (hj : j < 2 ^ 31)
    (kt : i ≤ j → W p l e R s m args below meth c H locs cells slots Q (F0 m tgt ls rest)) (kf : j < i → W p l e R s m args below meth c H locs cells slots Q (F0 m (pc + 3) ls rest)) : W p l e R s m args below meth c H locs cells slots Q (F0 m pc ls (.int y :: .int x :: rest)) := by
  subst hx; subst hy
  exact lv_icmp_le hexec hb hdg ht (fun h => kt ((nI_leI hi hj).mp h)) (fun h => kf (Nat.lt_of_not_le (fun q => h ((nI_leI hi hj).mpr q))))
end ZN
theorem z_inc (i k : Nat) {n : Int} (h : Int32.ofInt n = nI k) : nI i + Int32.ofInt n = nI (i + k) := by rw [h, nI_add]
theorem z_ge0 {c : Int32} {i : Nat} (hi : i < 2 ^ 31) : c ≤ nI i ↔ c.toNatClampNeg ≤ i := by
  rw [Int32.le_iff_toInt_le, nI_toInt hi]
  have h : (c.toNatClampNeg : Int) = max c.toInt 0 := by
    unfold Int32.toNatClampNeg
    omega
  omega
end
section
set_option maxRecDepth 20000 in
theorem wsL_law_r1_in : ∀ w ∈ wsL_law_r1, w ∈ lw_tbl := fun w h => (goodIn_p wsL_law_r1 [530, 57, 60] (by decide +kernel) (by decide +kernel) w h).1
set_option maxRecDepth 20000 in
theorem wsL_law_r2_in : ∀ w ∈ wsL_law_r2, w ∈ lw_tbl := fun w h => (goodIn_p wsL_law_r2 [65] (by decide +kernel) (by decide +kernel) w h).1
set_option maxRecDepth 20000 in
theorem wsL_law_r3_in : ∀ w ∈ wsL_law_r3, w ∈ lw_tbl := fun w h => (goodIn_p wsL_law_r3 [93, 109, 126, 137] (by decide +kernel) (by decide +kernel) w h).1
set_option maxRecDepth 20000 in
theorem wsL_law_r4_in : ∀ w ∈ wsL_law_r4, w ∈ lw_tbl := fun w h => (goodIn_p wsL_law_r4 [150, 153, 535, 185] (by decide +kernel) (by decide +kernel) w h).1
set_option maxRecDepth 20000 in
theorem wsL_law_r5_in : ∀ w ∈ wsL_law_r5, w ∈ lw_tbl := fun w h => (goodIn_p wsL_law_r5 [189, 580, 193, 196, 200] (by decide +kernel) (by decide +kernel) w h).1
set_option maxRecDepth 20000 in
theorem wsL_law_r6_in : ∀ w ∈ wsL_law_r6, w ∈ lw_tbl := fun w h => (goodIn_p wsL_law_r6 [204, 208, 212, 217, 221, 225] (by decide +kernel) (by decide +kernel) w h).1
set_option maxRecDepth 20000 in
theorem wsL_law_r7_in : ∀ w ∈ wsL_law_r7, w ∈ lw_tbl := fun w h => (goodIn_p wsL_law_r7 [228, 231, 236, 241, 246, 250] (by decide +kernel) (by decide +kernel) w h).1
set_option maxRecDepth 20000 in
theorem wsL_law_r8_in : ∀ w ∈ wsL_law_r8, w ∈ lw_tbl := fun w h => (goodIn_p wsL_law_r8 [254, 585, 589, 593, 597, 600] (by decide +kernel) (by decide +kernel) w h).1
end
section
set_option maxRecDepth 20000 in
theorem wsL_law_r9_in : ∀ w ∈ wsL_law_r9, w ∈ lw_tbl := fun w h => (goodIn_p wsL_law_r9 [605, 608, 611, 258, 262, 266] (by decide +kernel) (by decide +kernel) w h).1
set_option maxRecDepth 20000 in
theorem wsL_law_r10_in : ∀ w ∈ wsL_law_r10, w ∈ lw_tbl := fun w h => (goodIn_p wsL_law_r10 [273, 277, 282, 285, 289, 293] (by decide +kernel) (by decide +kernel) w h).1
set_option maxRecDepth 20000 in
theorem wsL_law_r11_in : ∀ w ∈ wsL_law_r11, w ∈ lw_tbl := fun w h => (goodIn_p wsL_law_r11 [297, 302, 306, 311, 315] (by decide +kernel) (by decide +kernel) w h).1
set_option maxRecDepth 20000 in
theorem wsL_law_r12_in : ∀ w ∈ wsL_law_r12, w ∈ lw_tbl := fun w h => (goodIn_p wsL_law_r12 [319, 322, 329, 333, 338] (by decide +kernel) (by decide +kernel) w h).1
set_option maxRecDepth 20000 in
theorem wsL_law_r13_in : ∀ w ∈ wsL_law_r13, w ∈ lw_tbl := fun w h => (goodIn_p wsL_law_r13 [343, 615, 619, 623, 626, 630] (by decide +kernel) (by decide +kernel) w h).1
set_option maxRecDepth 20000 in
theorem wsL_law_r14_in : ∀ w ∈ wsL_law_r14, w ∈ lw_tbl := fun w h => (goodIn_p wsL_law_r14 [634, 638, 642, 645, 649, 348] (by decide +kernel) (by decide +kernel) w h).1
set_option maxRecDepth 20000 in
theorem wsL_law_r15_in : ∀ w ∈ wsL_law_r15, w ∈ lw_tbl := fun w h => (goodIn_p wsL_law_r15 [352, 356, 360, 363, 367, 370, 374] (by decide +kernel) (by decide +kernel) w h).1
set_option maxRecDepth 20000 in
theorem wsL_law_r16_in : ∀ w ∈ wsL_law_r16, w ∈ lw_tbl := fun w h => (goodIn_p wsL_law_r16 [653, 657, 661, 379, 383] (by decide +kernel) (by decide +kernel) w h).1
end
section
set_option maxRecDepth 20000 in
theorem wsL_law_r17_in : ∀ w ∈ wsL_law_r17, w ∈ lw_tbl := fun w h => (goodIn_p wsL_law_r17 [387, 391, 397, 401, 405, 409] (by decide +kernel) (by decide +kernel) w h).1
set_option maxRecDepth 20000 in
theorem wsL_law_r18_in : ∀ w ∈ wsL_law_r18, w ∈ lw_tbl := fun w h => (goodIn_p wsL_law_r18 [413, 417, 422, 426, 431, 435] (by decide +kernel) (by decide +kernel) w h).1
set_option maxRecDepth 20000 in
theorem wsL_law_r19_in : ∀ w ∈ wsL_law_r19, w ∈ lw_tbl := fun w h => (goodIn_p wsL_law_r19 [439, 665, 669, 673, 676, 680] (by decide +kernel) (by decide +kernel) w h).1
set_option maxRecDepth 20000 in
theorem wsL_law_r20_in : ∀ w ∈ wsL_law_r20, w ∈ lw_tbl := fun w h => (goodIn_p wsL_law_r20 [684, 443, 447, 451, 455, 459] (by decide +kernel) (by decide +kernel) w h).1
set_option maxRecDepth 20000 in
theorem wsL_law_r21_in : ∀ w ∈ wsL_law_r21, w ∈ lw_tbl := fun w h => (goodIn_p wsL_law_r21 [468, 472, 476, 480] (by decide +kernel) (by decide +kernel) w h).1
set_option maxRecDepth 20000 in
theorem wsL_law_r22_in : ∀ w ∈ wsL_law_r22, w ∈ lw_tbl := fun w h => (goodIn_p wsL_law_r22 [485, 489, 688, 692, 696, 700, 703] (by decide +kernel) (by decide +kernel) w h).1
set_option maxRecDepth 20000 in
theorem wsL_law_r23_in : ∀ w ∈ wsL_law_r23, w ∈ lw_tbl := fun w h => (goodIn_p wsL_law_r23 [493, 497, 501, 707, 506] (by decide +kernel) (by decide +kernel) w h).1
set_option maxRecDepth 20000 in
theorem wsL_law_r24_in : ∀ w ∈ wsL_law_r24, w ∈ lw_tbl := fun w h => (goodIn_p wsL_law_r24 [510, 711, 514, 715, 719, 519] (by decide +kernel) (by decide +kernel) w h).1
end
section
set_option maxRecDepth 20000 in
theorem wsL_law_r25_in : ∀ w ∈ wsL_law_r25, w ∈ lw_tbl := fun w h => (goodIn_p wsL_law_r25 [723, 523, 727, 527, 731] (by decide +kernel) (by decide +kernel) w h).1
set_option maxRecDepth 20000 in
theorem wsX50_in : ∀ w ∈ wsX50, w ∈ lw_tbl := fun w h => (goodIn_p wsX50 [] (by decide +kernel) (by decide +kernel) w h).1
set_option maxRecDepth 20000 in
theorem wsX60_in : ∀ w ∈ wsX60, w ∈ lw_tbl := fun w h => (goodIn_p wsX60 [] (by decide +kernel) (by decide +kernel) w h).1
set_option maxRecDepth 20000 in
theorem wsX00_in : ∀ w ∈ wsX00, w ∈ lw_tbl := fun w h => (goodIn_p wsX00 [] (by decide +kernel) (by decide +kernel) w h).1
set_option maxRecDepth 20000 in
theorem wsX40_in : ∀ w ∈ wsX40, w ∈ lw_tbl := fun w h => (goodIn_p wsX40 [] (by decide +kernel) (by decide +kernel) w h).1
set_option maxRecDepth 20000 in
theorem wsX30_in : ∀ w ∈ wsX30, w ∈ lw_tbl := fun w h => (goodIn_p wsX30 [] (by decide +kernel) (by decide +kernel) w h).1
set_option maxRecDepth 20000 in
theorem wsX10_in : ∀ w ∈ wsX10, w ∈ lw_tbl := fun w h => (goodIn_p wsX10 [] (by decide +kernel) (by decide +kernel) w h).1
set_option maxRecDepth 20000 in
theorem wsX20_in : ∀ w ∈ wsX20, w ∈ lw_tbl := fun w h => (goodIn_p wsX20 [] (by decide +kernel) (by decide +kernel) w h).1
theorem wsL_law_in : ∀ w ∈ wsL_law, w ∈ lw_tbl := by
  unfold wsL_law
  exact List.forall_mem_append.mpr ⟨List.forall_mem_append.mpr ⟨List.forall_mem_append.mpr ⟨List.forall_mem_append.mpr ⟨List.forall_mem_append.mpr ⟨List.forall_mem_append.mpr ⟨List.forall_mem_append.mpr ⟨List.forall_mem_append.mpr ⟨List.forall_mem_append.mpr ⟨wsL_law_r1_in, List.forall_mem_append.mpr ⟨wsL_law_r2_in, List.forall_mem_append.mpr ⟨wsL_law_r3_in, List.forall_mem_append.mpr ⟨wsL_law_r4_in, List.forall_mem_append.mpr ⟨wsL_law_r5_in, List.forall_mem_append.mpr ⟨wsL_law_r6_in, List.forall_mem_append.mpr ⟨wsL_law_r7_in, List.forall_mem_append.mpr ⟨wsL_law_r8_in, List.forall_mem_append.mpr ⟨wsL_law_r9_in, List.forall_mem_append.mpr ⟨wsL_law_r10_in, List.forall_mem_append.mpr ⟨wsL_law_r11_in, List.forall_mem_append.mpr ⟨wsL_law_r12_in, List.forall_mem_append.mpr ⟨wsL_law_r13_in, List.forall_mem_append.mpr ⟨wsL_law_r14_in, List.forall_mem_append.mpr ⟨wsL_law_r15_in, List.forall_mem_append.mpr ⟨wsL_law_r16_in, List.forall_mem_append.mpr ⟨wsL_law_r17_in, List.forall_mem_append.mpr ⟨wsL_law_r18_in, List.forall_mem_append.mpr ⟨wsL_law_r19_in, List.forall_mem_append.mpr ⟨wsL_law_r20_in, List.forall_mem_append.mpr ⟨wsL_law_r21_in, List.forall_mem_append.mpr ⟨wsL_law_r22_in, List.forall_mem_append.mpr ⟨wsL_law_r23_in, List.forall_mem_append.mpr ⟨wsL_law_r24_in, wsL_law_r25_in⟩⟩⟩⟩⟩⟩⟩⟩⟩⟩⟩⟩⟩⟩⟩⟩⟩⟩⟩⟩⟩⟩⟩⟩, wsX50_in⟩, wsX60_in⟩, wsX00_in⟩, wsX40_in⟩, wsX30_in⟩, wsX10_in⟩, wsX20_in⟩, (fun _ h => absurd h List.not_mem_nil)⟩
theorem inlX0 : ∀ w ∈ wsX00, w ∈ wsL_law := fun _ h => List.mem_append_left _ (List.mem_append_left _ (List.mem_append_left _ (List.mem_append_left _ (List.mem_append_left _ (List.mem_append_right _ h)))))
theorem inX0 : ∀ w ∈ wsX00, w ∈ lw_tbl := fun w h => wsL_law_in w (inlX0 w h)
theorem inlX1 : ∀ w ∈ wsX10, w ∈ wsL_law := fun _ h => List.mem_append_left _ (List.mem_append_left _ (List.mem_append_right _ h))
theorem inX1 : ∀ w ∈ wsX10, w ∈ lw_tbl := fun w h => wsL_law_in w (inlX1 w h)
theorem inlX2 : ∀ w ∈ wsX20, w ∈ wsL_law := fun _ h => List.mem_append_left _ (List.mem_append_right _ h)
theorem inX2 : ∀ w ∈ wsX20, w ∈ lw_tbl := fun w h => wsL_law_in w (inlX2 w h)
theorem inlX3 : ∀ w ∈ wsX30, w ∈ wsL_law := fun _ h => List.mem_append_left _ (List.mem_append_left _ (List.mem_append_left _ (List.mem_append_right _ h)))
theorem inX3 : ∀ w ∈ wsX30, w ∈ lw_tbl := fun w h => wsL_law_in w (inlX3 w h)
theorem inlX4 : ∀ w ∈ wsX40, w ∈ wsL_law := fun _ h => List.mem_append_left _ (List.mem_append_left _ (List.mem_append_left _ (List.mem_append_left _ (List.mem_append_right _ h))))
theorem inX4 : ∀ w ∈ wsX40, w ∈ lw_tbl := fun w h => wsL_law_in w (inlX4 w h)
theorem inlX5 : ∀ w ∈ wsX50, w ∈ wsL_law := fun _ h => List.mem_append_left _ (List.mem_append_left _ (List.mem_append_left _ (List.mem_append_left _ (List.mem_append_left _ (List.mem_append_left _ (List.mem_append_left _ (List.mem_append_right _ h)))))))
theorem inX5 : ∀ w ∈ wsX50, w ∈ lw_tbl := fun w h => wsL_law_in w (inlX5 w h)
theorem inlX6 : ∀ w ∈ wsX60, w ∈ wsL_law := fun _ h => List.mem_append_left _ (List.mem_append_left _ (List.mem_append_left _ (List.mem_append_left _ (List.mem_append_left _ (List.mem_append_left _ (List.mem_append_right _ h))))))
theorem inX6 : ∀ w ∈ wsX60, w ∈ lw_tbl := fun w h => wsL_law_in w (inlX6 w h)
theorem inJ6 : ∀ w ∈ wsJ60, w ∈ lw_tbl := by decide +kernel
theorem inJ9 : ∀ w ∈ wsJ90, w ∈ lw_tbl := by decide +kernel
theorem inJ10 : ∀ w ∈ wsJ100, w ∈ lw_tbl := by decide +kernel
end
section
theorem dX0_init_0 : decode cX0_init 0 = .ok (.aload_n 0, 1) := by decide +kernel
theorem dX0_init_1 : decode cX0_init 1 = .ok (.invokespecial 3, 3) := by decide +kernel
theorem dX0_init_4 : decode cX0_init 4 = .ok (.aload_n 0, 1) := by decide +kernel
theorem dX0_init_5 : decode cX0_init 5 = .ok (.sipush 768, 3) := by decide +kernel
theorem dX0_init_8 : decode cX0_init 8 = .ok (.newarray .int, 2) := by decide +kernel
theorem dX0_init_10 : decode cX0_init 10 = .ok (.putfield 11, 3) := by decide +kernel
theorem dX0_init_13 : decode cX0_init 13 = .ok (.aload_n 0, 1) := by decide +kernel
theorem dX0_init_14 : decode cX0_init 14 = .ok (.iconst 1, 1) := by decide +kernel
theorem dX0_init_15 : decode cX0_init 15 = .ok (.putfield 15, 3) := by decide +kernel
theorem dX0_init_18 : decode cX0_init 18 = .ok (.aload_n 0, 1) := by decide +kernel
theorem dX0_init_19 : decode cX0_init 19 = .ok (.iconst 0, 1) := by decide +kernel
theorem dX0_init_20 : decode cX0_init 20 = .ok (.putfield 19, 3) := by decide +kernel
theorem dX0_init_23 : decode cX0_init 23 = .ok (.aload_n 0, 1) := by decide +kernel
theorem dX0_init_24 : decode cX0_init 24 = .ok (.iconst 0, 1) := by decide +kernel
theorem dX0_init_25 : decode cX0_init 25 = .ok (.putfield 23, 3) := by decide +kernel
theorem dX0_init_28 : decode cX0_init 28 = .ok (.aload_n 0, 1) := by decide +kernel
theorem dX0_init_29 : decode cX0_init 29 = .ok (.iconst 0, 1) := by decide +kernel
theorem dX0_init_30 : decode cX0_init 30 = .ok (.putfield 26, 3) := by decide +kernel
theorem dX0_init_33 : decode cX0_init 33 = .ok (.aload_n 0, 1) := by decide +kernel
theorem dX0_init_34 : decode cX0_init 34 = .ok (.iconst 0, 1) := by decide +kernel
theorem dX0_init_35 : decode cX0_init 35 = .ok (.putfield 29, 3) := by decide +kernel
theorem dX0_init_38 : decode cX0_init 38 = .ok (.iconst 0, 1) := by decide +kernel
theorem dX0_init_39 : decode cX0_init 39 = .ok (.istore_n 1, 1) := by decide +kernel
theorem dX0_init_40 : decode cX0_init 40 = .ok (.iload_n 1, 1) := by decide +kernel
theorem dX0_init_41 : decode cX0_init 41 = .ok (.sipush 768, 3) := by decide +kernel
theorem dX0_init_44 : decode cX0_init 44 = .ok (.if_icmp .ge 18, 3) := by decide +kernel
theorem dX0_init_47 : decode cX0_init 47 = .ok (.aload_n 0, 1) := by decide +kernel
theorem dX0_init_48 : decode cX0_init 48 = .ok (.getfield 11, 3) := by decide +kernel
theorem dX0_init_51 : decode cX0_init 51 = .ok (.iload_n 1, 1) := by decide +kernel
theorem dX0_init_52 : decode cX0_init 52 = .ok (.sipush 255, 3) := by decide +kernel
theorem dX0_init_55 : decode cX0_init 55 = .ok (.iastore, 1) := by decide +kernel
theorem dX0_init_56 : decode cX0_init 56 = .ok (.iinc 1 1, 3) := by decide +kernel
theorem dX0_init_59 : decode cX0_init 59 = .ok (.goto (-19), 3) := by decide +kernel
theorem dX0_init_62 : decode cX0_init 62 = .ok (.return_, 1) := by decide +kernel
theorem dX0_at_0 : decode cX0_at 0 = .ok (.iload_n 1, 1) := by decide +kernel
theorem dX0_at_1 : decode cX0_at 1 = .ok (.ifCond .lt 19, 3) := by decide +kernel
theorem dX0_at_4 : decode cX0_at 4 = .ok (.iload_n 1, 1) := by decide +kernel
theorem dX0_at_5 : decode cX0_at 5 = .ok (.sipush 768, 3) := by decide +kernel
theorem dX0_at_8 : decode cX0_at 8 = .ok (.if_icmp .ge 12, 3) := by decide +kernel
theorem dX0_at_11 : decode cX0_at 11 = .ok (.aload_n 0, 1) := by decide +kernel
theorem dX0_at_12 : decode cX0_at 12 = .ok (.getfield 11, 3) := by decide +kernel
theorem dX0_at_15 : decode cX0_at 15 = .ok (.iload_n 1, 1) := by decide +kernel
theorem dX0_at_16 : decode cX0_at 16 = .ok (.iaload, 1) := by decide +kernel
theorem dX0_at_17 : decode cX0_at 17 = .ok (.goto 4, 3) := by decide +kernel
theorem dX0_at_20 : decode cX0_at 20 = .ok (.iconst (-1), 1) := by decide +kernel
theorem dX0_at_21 : decode cX0_at 21 = .ok (.ireturn, 1) := by decide +kernel
theorem dX0_setCrash_0 : decode cX0_setCrash 0 = .ok (.aload_n 0, 1) := by decide +kernel
theorem dX0_setCrash_1 : decode cX0_setCrash 1 = .ok (.iload_n 1, 1) := by decide +kernel
theorem dX0_setCrash_2 : decode cX0_setCrash 2 = .ok (.ifCond .lt 7, 3) := by decide +kernel
theorem dX0_setCrash_5 : decode cX0_setCrash 5 = .ok (.iconst 1, 1) := by decide +kernel
theorem dX0_setCrash_6 : decode cX0_setCrash 6 = .ok (.goto 4, 3) := by decide +kernel
theorem dX0_setCrash_9 : decode cX0_setCrash 9 = .ok (.iconst 0, 1) := by decide +kernel
theorem dX0_setCrash_10 : decode cX0_setCrash 10 = .ok (.putfield 23, 3) := by decide +kernel
theorem dX0_setCrash_13 : decode cX0_setCrash 13 = .ok (.aload_n 0, 1) := by decide +kernel
theorem dX0_setCrash_14 : decode cX0_setCrash 14 = .ok (.iload_n 1, 1) := by decide +kernel
theorem dX0_setCrash_15 : decode cX0_setCrash 15 = .ok (.putfield 26, 3) := by decide +kernel
theorem dX0_setCrash_18 : decode cX0_setCrash 18 = .ok (.aload_n 0, 1) := by decide +kernel
theorem dX0_setCrash_19 : decode cX0_setCrash 19 = .ok (.iload_n 2, 1) := by decide +kernel
theorem dX0_setCrash_20 : decode cX0_setCrash 20 = .ok (.putfield 29, 3) := by decide +kernel
theorem dX0_setCrash_23 : decode cX0_setCrash 23 = .ok (.return_, 1) := by decide +kernel
set_option maxRecDepth 20000 in
theorem ggX0_erase_X0_tearNextAct : GoodIn wsX0_erase wsX0_tearNextAct := goodIn_r _ [8, 9, 10, 11, 1, 12, 13, 14, 15, 16, 17] (by decide +kernel) (by decide +kernel)
set_option maxRecDepth 20000 in
theorem gX0_erase_X0_tearNextAct : GoodIn wsX0_erase (wsV RX0 32 RX0 yX0_tearNextAct wsX0_tearNextAct) := goodIn_app (goodIn_of _ (by decide +kernel)) ggX0_erase_X0_tearNextAct
theorem dX0_erase_0 : decode cX0_erase 0 = .ok (.aload_n 0, 1) := by decide +kernel
theorem dX0_erase_1 : decode cX0_erase 1 = .ok (.getfield 15, 3) := by decide +kernel
theorem dX0_erase_4 : decode cX0_erase 4 = .ok (.ifCond .eq 17, 3) := by decide +kernel
theorem dX0_erase_7 : decode cX0_erase 7 = .ok (.iload_n 1, 1) := by decide +kernel
theorem dX0_erase_8 : decode cX0_erase 8 = .ok (.ifCond .lt 13, 3) := by decide +kernel
theorem dX0_erase_11 : decode cX0_erase 11 = .ok (.iload_n 1, 1) := by decide +kernel
theorem dX0_erase_12 : decode cX0_erase 12 = .ok (.bipush 32, 2) := by decide +kernel
theorem dX0_erase_14 : decode cX0_erase 14 = .ok (.imul, 1) := by decide +kernel
theorem dX0_erase_15 : decode cX0_erase 15 = .ok (.sipush 768, 3) := by decide +kernel
theorem dX0_erase_18 : decode cX0_erase 18 = .ok (.if_icmp .lt 4, 3) := by decide +kernel
theorem dX0_erase_21 : decode cX0_erase 21 = .ok (.return_, 1) := by decide +kernel
theorem dX0_erase_22 : decode cX0_erase 22 = .ok (.aload_n 0, 1) := by decide +kernel
theorem dX0_erase_23 : decode cX0_erase 23 = .ok (.invokevirtual 32, 3) := by decide +kernel
theorem dX0_erase_26 : decode cX0_erase 26 = .ok (.ifCond .eq 13, 3) := by decide +kernel
theorem dX0_erase_29 : decode cX0_erase 29 = .ok (.aload_n 0, 1) := by decide +kernel
theorem dX0_erase_30 : decode cX0_erase 30 = .ok (.getfield 29, 3) := by decide +kernel
theorem dX0_erase_33 : decode cX0_erase 33 = .ok (.bipush 32, 2) := by decide +kernel
theorem dX0_erase_35 : decode cX0_erase 35 = .ok (.irem, 1) := by decide +kernel
theorem dX0_erase_36 : decode cX0_erase 36 = .ok (.goto 5, 3) := by decide +kernel
theorem dX0_erase_39 : decode cX0_erase 39 = .ok (.bipush 32, 2) := by decide +kernel
theorem dX0_erase_41 : decode cX0_erase 41 = .ok (.istore_n 2, 1) := by decide +kernel
theorem dX0_erase_42 : decode cX0_erase 42 = .ok (.iconst 0, 1) := by decide +kernel
theorem dX0_erase_43 : decode cX0_erase 43 = .ok (.istore_n 3, 1) := by decide +kernel
theorem dX0_erase_44 : decode cX0_erase 44 = .ok (.iload_n 3, 1) := by decide +kernel
theorem dX0_erase_45 : decode cX0_erase 45 = .ok (.iload_n 2, 1) := by decide +kernel
theorem dX0_erase_46 : decode cX0_erase 46 = .ok (.if_icmp .ge 23, 3) := by decide +kernel
theorem dX0_erase_49 : decode cX0_erase 49 = .ok (.aload_n 0, 1) := by decide +kernel
theorem dX0_erase_50 : decode cX0_erase 50 = .ok (.getfield 11, 3) := by decide +kernel
theorem dX0_erase_53 : decode cX0_erase 53 = .ok (.iload_n 1, 1) := by decide +kernel
theorem dX0_erase_54 : decode cX0_erase 54 = .ok (.bipush 32, 2) := by decide +kernel
theorem dX0_erase_56 : decode cX0_erase 56 = .ok (.imul, 1) := by decide +kernel
theorem dX0_erase_57 : decode cX0_erase 57 = .ok (.iload_n 3, 1) := by decide +kernel
theorem dX0_erase_58 : decode cX0_erase 58 = .ok (.iadd, 1) := by decide +kernel
theorem dX0_erase_59 : decode cX0_erase 59 = .ok (.sipush 255, 3) := by decide +kernel
theorem dX0_erase_62 : decode cX0_erase 62 = .ok (.iastore, 1) := by decide +kernel
theorem dX0_erase_63 : decode cX0_erase 63 = .ok (.iinc 3 1, 3) := by decide +kernel
theorem dX0_erase_66 : decode cX0_erase 66 = .ok (.goto (-22), 3) := by decide +kernel
theorem dX0_erase_69 : decode cX0_erase 69 = .ok (.return_, 1) := by decide +kernel
set_option maxRecDepth 20000 in
theorem ggX0_program_X0_tearNextAct : GoodIn wsX0_program wsX0_tearNextAct := goodIn_r _ [8, 9, 10, 11, 1, 12, 13, 14, 15, 16, 17] (by decide +kernel) (by decide +kernel)
set_option maxRecDepth 20000 in
theorem gX0_program_X0_tearNextAct : GoodIn wsX0_program (wsV RX0 32 RX0 yX0_tearNextAct wsX0_tearNextAct) := goodIn_app (goodIn_of _ (by decide +kernel)) ggX0_program_X0_tearNextAct
theorem dX0_program_0 : decode cX0_program 0 = .ok (.aload_n 0, 1) := by decide +kernel
theorem dX0_program_1 : decode cX0_program 1 = .ok (.getfield 15, 3) := by decide +kernel
theorem dX0_program_4 : decode cX0_program 4 = .ok (.ifCond .eq 14, 3) := by decide +kernel
theorem dX0_program_7 : decode cX0_program 7 = .ok (.iload_n 1, 1) := by decide +kernel
theorem dX0_program_8 : decode cX0_program 8 = .ok (.ifCond .lt 10, 3) := by decide +kernel
theorem dX0_program_11 : decode cX0_program 11 = .ok (.iload_n 1, 1) := by decide +kernel
theorem dX0_program_12 : decode cX0_program 12 = .ok (.sipush 768, 3) := by decide +kernel
theorem dX0_program_15 : decode cX0_program 15 = .ok (.if_icmp .lt 4, 3) := by decide +kernel
theorem dX0_program_18 : decode cX0_program 18 = .ok (.return_, 1) := by decide +kernel
theorem dX0_program_19 : decode cX0_program 19 = .ok (.aload_n 0, 1) := by decide +kernel
theorem dX0_program_20 : decode cX0_program 20 = .ok (.invokevirtual 32, 3) := by decide +kernel
theorem dX0_program_23 : decode cX0_program 23 = .ok (.ifCond .eq 12, 3) := by decide +kernel
theorem dX0_program_26 : decode cX0_program 26 = .ok (.iload_n 2, 1) := by decide +kernel
theorem dX0_program_27 : decode cX0_program 27 = .ok (.aload_n 0, 1) := by decide +kernel
theorem dX0_program_28 : decode cX0_program 28 = .ok (.getfield 29, 3) := by decide +kernel
theorem dX0_program_31 : decode cX0_program 31 = .ok (.ior, 1) := by decide +kernel
theorem dX0_program_32 : decode cX0_program 32 = .ok (.goto 4, 3) := by decide +kernel
theorem dX0_program_35 : decode cX0_program 35 = .ok (.iload_n 2, 1) := by decide +kernel
theorem dX0_program_36 : decode cX0_program 36 = .ok (.istore_n 3, 1) := by decide +kernel
theorem dX0_program_37 : decode cX0_program 37 = .ok (.aload_n 0, 1) := by decide +kernel
theorem dX0_program_38 : decode cX0_program 38 = .ok (.getfield 11, 3) := by decide +kernel
theorem dX0_program_41 : decode cX0_program 41 = .ok (.iload_n 1, 1) := by decide +kernel
theorem dX0_program_42 : decode cX0_program 42 = .ok (.aload_n 0, 1) := by decide +kernel
theorem dX0_program_43 : decode cX0_program 43 = .ok (.getfield 11, 3) := by decide +kernel
theorem dX0_program_46 : decode cX0_program 46 = .ok (.iload_n 1, 1) := by decide +kernel
theorem dX0_program_47 : decode cX0_program 47 = .ok (.iaload, 1) := by decide +kernel
theorem dX0_program_48 : decode cX0_program 48 = .ok (.iload_n 3, 1) := by decide +kernel
theorem dX0_program_49 : decode cX0_program 49 = .ok (.iand, 1) := by decide +kernel
theorem dX0_program_50 : decode cX0_program 50 = .ok (.iastore, 1) := by decide +kernel
theorem dX0_program_51 : decode cX0_program 51 = .ok (.return_, 1) := by decide +kernel
theorem dX0_tearNextAct_0 : decode cX0_tearNextAct 0 = .ok (.aload_n 0, 1) := by decide +kernel
theorem dX0_tearNextAct_1 : decode cX0_tearNextAct 1 = .ok (.dup, 1) := by decide +kernel
theorem dX0_tearNextAct_2 : decode cX0_tearNextAct 2 = .ok (.getfield 19, 3) := by decide +kernel
theorem dX0_tearNextAct_5 : decode cX0_tearNextAct 5 = .ok (.iconst 1, 1) := by decide +kernel
theorem dX0_tearNextAct_6 : decode cX0_tearNextAct 6 = .ok (.iadd, 1) := by decide +kernel
theorem dX0_tearNextAct_7 : decode cX0_tearNextAct 7 = .ok (.putfield 19, 3) := by decide +kernel
theorem dX0_tearNextAct_10 : decode cX0_tearNextAct 10 = .ok (.aload_n 0, 1) := by decide +kernel
theorem dX0_tearNextAct_11 : decode cX0_tearNextAct 11 = .ok (.getfield 23, 3) := by decide +kernel
theorem dX0_tearNextAct_14 : decode cX0_tearNextAct 14 = .ok (.ifCond .ne 5, 3) := by decide +kernel
theorem dX0_tearNextAct_17 : decode cX0_tearNextAct 17 = .ok (.iconst 0, 1) := by decide +kernel
theorem dX0_tearNextAct_18 : decode cX0_tearNextAct 18 = .ok (.ireturn, 1) := by decide +kernel
theorem dX0_tearNextAct_19 : decode cX0_tearNextAct 19 = .ok (.aload_n 0, 1) := by decide +kernel
theorem dX0_tearNextAct_20 : decode cX0_tearNextAct 20 = .ok (.getfield 26, 3) := by decide +kernel
theorem dX0_tearNextAct_23 : decode cX0_tearNextAct 23 = .ok (.ifCond .le 15, 3) := by decide +kernel
theorem dX0_tearNextAct_26 : decode cX0_tearNextAct 26 = .ok (.aload_n 0, 1) := by decide +kernel
theorem dX0_tearNextAct_27 : decode cX0_tearNextAct 27 = .ok (.dup, 1) := by decide +kernel
theorem dX0_tearNextAct_28 : decode cX0_tearNextAct 28 = .ok (.getfield 26, 3) := by decide +kernel
theorem dX0_tearNextAct_31 : decode cX0_tearNextAct 31 = .ok (.iconst 1, 1) := by decide +kernel
theorem dX0_tearNextAct_32 : decode cX0_tearNextAct 32 = .ok (.isub, 1) := by decide +kernel
theorem dX0_tearNextAct_33 : decode cX0_tearNextAct 33 = .ok (.putfield 26, 3) := by decide +kernel
theorem dX0_tearNextAct_36 : decode cX0_tearNextAct 36 = .ok (.iconst 0, 1) := by decide +kernel
theorem dX0_tearNextAct_37 : decode cX0_tearNextAct 37 = .ok (.ireturn, 1) := by decide +kernel
theorem dX0_tearNextAct_38 : decode cX0_tearNextAct 38 = .ok (.aload_n 0, 1) := by decide +kernel
theorem dX0_tearNextAct_39 : decode cX0_tearNextAct 39 = .ok (.iconst 0, 1) := by decide +kernel
theorem dX0_tearNextAct_40 : decode cX0_tearNextAct 40 = .ok (.putfield 23, 3) := by decide +kernel
theorem dX0_tearNextAct_43 : decode cX0_tearNextAct 43 = .ok (.aload_n 0, 1) := by decide +kernel
theorem dX0_tearNextAct_44 : decode cX0_tearNextAct 44 = .ok (.iconst 0, 1) := by decide +kernel
theorem dX0_tearNextAct_45 : decode cX0_tearNextAct 45 = .ok (.putfield 15, 3) := by decide +kernel
theorem dX0_tearNextAct_48 : decode cX0_tearNextAct 48 = .ok (.iconst 1, 1) := by decide +kernel
theorem dX0_tearNextAct_49 : decode cX0_tearNextAct 49 = .ok (.ireturn, 1) := by decide +kernel
set_option maxRecDepth 20000 in
theorem ggX0_programRow_X0_program : GoodIn wsX0_programRow wsX0_program := goodIn_r _ [5, 6, 7, 8, 9, 10, 11, 4, 12, 13, 14, 15, 16, 17, 18, 19, 20, 21] (by decide +kernel) (by decide +kernel)
set_option maxRecDepth 20000 in
theorem gX0_programRow_X0_program : GoodIn wsX0_programRow (wsV RX0 36 RX0 yX0_program wsX0_program) := goodIn_app (goodIn_of _ (by decide +kernel)) ggX0_programRow_X0_program
theorem dX0_programRow_0 : decode cX0_programRow 0 = .ok (.iconst 0, 1) := by decide +kernel
theorem dX0_programRow_1 : decode cX0_programRow 1 = .ok (.istore 4, 2) := by decide +kernel
theorem dX0_programRow_3 : decode cX0_programRow 3 = .ok (.iload 4, 2) := by decide +kernel
theorem dX0_programRow_5 : decode cX0_programRow 5 = .ok (.iload_n 3, 1) := by decide +kernel
theorem dX0_programRow_6 : decode cX0_programRow 6 = .ok (.if_icmp .ge 28, 3) := by decide +kernel
theorem dX0_programRow_9 : decode cX0_programRow 9 = .ok (.iload 4, 2) := by decide +kernel
theorem dX0_programRow_11 : decode cX0_programRow 11 = .ok (.aload_n 2, 1) := by decide +kernel
theorem dX0_programRow_12 : decode cX0_programRow 12 = .ok (.arraylength, 1) := by decide +kernel
theorem dX0_programRow_13 : decode cX0_programRow 13 = .ok (.if_icmp .ge 21, 3) := by decide +kernel
theorem dX0_programRow_16 : decode cX0_programRow 16 = .ok (.aload_n 0, 1) := by decide +kernel
theorem dX0_programRow_17 : decode cX0_programRow 17 = .ok (.iload_n 1, 1) := by decide +kernel
theorem dX0_programRow_18 : decode cX0_programRow 18 = .ok (.iload 4, 2) := by decide +kernel
theorem dX0_programRow_20 : decode cX0_programRow 20 = .ok (.iadd, 1) := by decide +kernel
theorem dX0_programRow_21 : decode cX0_programRow 21 = .ok (.aload_n 2, 1) := by decide +kernel
theorem dX0_programRow_22 : decode cX0_programRow 22 = .ok (.iload 4, 2) := by decide +kernel
theorem dX0_programRow_24 : decode cX0_programRow 24 = .ok (.iaload, 1) := by decide +kernel
theorem dX0_programRow_25 : decode cX0_programRow 25 = .ok (.invokevirtual 36, 3) := by decide +kernel
theorem dX0_programRow_28 : decode cX0_programRow 28 = .ok (.iinc 4 1, 3) := by decide +kernel
theorem dX0_programRow_31 : decode cX0_programRow 31 = .ok (.goto (-28), 3) := by decide +kernel
theorem dX0_programRow_34 : decode cX0_programRow 34 = .ok (.return_, 1) := by decide +kernel
set_option maxRecDepth 20000 in
theorem ggX0_programWord_X5_byteOfWord : GoodIn wsX0_programWord wsX5_byteOfWord := goodIn_r _ [3] (by decide +kernel) (by decide +kernel)
set_option maxRecDepth 20000 in
theorem gX0_programWord_X5_byteOfWord_n40 : GoodIn wsX0_programWord (wsX5_byteOfWord) := ggX0_programWord_X5_byteOfWord
set_option maxRecDepth 20000 in
theorem ggX0_programWord_X0_program : GoodIn wsX0_programWord wsX0_program := goodIn_r _ [8, 9, 10, 11, 12, 13, 14, 7, 15, 16, 17, 18, 19, 20, 21, 22, 23, 24] (by decide +kernel) (by decide +kernel)
set_option maxRecDepth 20000 in
theorem gX0_programWord_X0_program : GoodIn wsX0_programWord (wsV RX0 36 RX0 yX0_program wsX0_program) := goodIn_app (goodIn_of _ (by decide +kernel)) ggX0_programWord_X0_program
theorem dX0_programWord_0 : decode cX0_programWord 0 = .ok (.iconst 0, 1) := by decide +kernel
theorem dX0_programWord_1 : decode cX0_programWord 1 = .ok (.istore_n 3, 1) := by decide +kernel
theorem dX0_programWord_2 : decode cX0_programWord 2 = .ok (.iload_n 3, 1) := by decide +kernel
theorem dX0_programWord_3 : decode cX0_programWord 3 = .ok (.iconst 4, 1) := by decide +kernel
theorem dX0_programWord_4 : decode cX0_programWord 4 = .ok (.if_icmp .ge 21, 3) := by decide +kernel
theorem dX0_programWord_7 : decode cX0_programWord 7 = .ok (.aload_n 0, 1) := by decide +kernel
theorem dX0_programWord_8 : decode cX0_programWord 8 = .ok (.iload_n 1, 1) := by decide +kernel
theorem dX0_programWord_9 : decode cX0_programWord 9 = .ok (.iload_n 3, 1) := by decide +kernel
theorem dX0_programWord_10 : decode cX0_programWord 10 = .ok (.iadd, 1) := by decide +kernel
theorem dX0_programWord_11 : decode cX0_programWord 11 = .ok (.iload_n 2, 1) := by decide +kernel
theorem dX0_programWord_12 : decode cX0_programWord 12 = .ok (.iload_n 3, 1) := by decide +kernel
theorem dX0_programWord_13 : decode cX0_programWord 13 = .ok (.invokestatic 40, 3) := by decide +kernel
theorem dX0_programWord_16 : decode cX0_programWord 16 = .ok (.invokevirtual 36, 3) := by decide +kernel
theorem dX0_programWord_19 : decode cX0_programWord 19 = .ok (.iinc 3 1, 3) := by decide +kernel
theorem dX0_programWord_22 : decode cX0_programWord 22 = .ok (.goto (-20), 3) := by decide +kernel
theorem dX0_programWord_25 : decode cX0_programWord 25 = .ok (.return_, 1) := by decide +kernel
set_option maxRecDepth 20000 in
theorem ggX0_programLowestBit_X0_at : GoodIn wsX0_programLowestBit wsX0_at := goodIn_r _ [5, 6, 20, 21, 22, 23, 24, 25] (by decide +kernel) (by decide +kernel)
set_option maxRecDepth 20000 in
theorem gX0_programLowestBit_X0_at : GoodIn wsX0_programLowestBit (wsV RX0 44 RX0 yX0_at wsX0_at) := goodIn_app (goodIn_of _ (by decide +kernel)) ggX0_programLowestBit_X0_at
set_option maxRecDepth 20000 in
theorem ggX0_programLowestBit_X0_program : GoodIn wsX0_programLowestBit wsX0_program := goodIn_r _ [10, 11, 12, 6, 13, 14, 15, 4, 16, 17, 18, 19, 20, 21, 22, 23, 24, 25] (by decide +kernel) (by decide +kernel)
set_option maxRecDepth 20000 in
theorem gX0_programLowestBit_X0_program : GoodIn wsX0_programLowestBit (wsV RX0 36 RX0 yX0_program wsX0_program) := goodIn_app (goodIn_of _ (by decide +kernel)) ggX0_programLowestBit_X0_program
theorem dX0_programLowestBit_0 : decode cX0_programLowestBit 0 = .ok (.aload_n 0, 1) := by decide +kernel
theorem dX0_programLowestBit_1 : decode cX0_programLowestBit 1 = .ok (.iload_n 1, 1) := by decide +kernel
theorem dX0_programLowestBit_2 : decode cX0_programLowestBit 2 = .ok (.invokevirtual 44, 3) := by decide +kernel
theorem dX0_programLowestBit_5 : decode cX0_programLowestBit 5 = .ok (.istore_n 2, 1) := by decide +kernel
theorem dX0_programLowestBit_6 : decode cX0_programLowestBit 6 = .ok (.aload_n 0, 1) := by decide +kernel
theorem dX0_programLowestBit_7 : decode cX0_programLowestBit 7 = .ok (.iload_n 1, 1) := by decide +kernel
theorem dX0_programLowestBit_8 : decode cX0_programLowestBit 8 = .ok (.iload_n 2, 1) := by decide +kernel
theorem dX0_programLowestBit_9 : decode cX0_programLowestBit 9 = .ok (.iload_n 2, 1) := by decide +kernel
theorem dX0_programLowestBit_10 : decode cX0_programLowestBit 10 = .ok (.iconst 1, 1) := by decide +kernel
theorem dX0_programLowestBit_11 : decode cX0_programLowestBit 11 = .ok (.isub, 1) := by decide +kernel
theorem dX0_programLowestBit_12 : decode cX0_programLowestBit 12 = .ok (.iand, 1) := by decide +kernel
theorem dX0_programLowestBit_13 : decode cX0_programLowestBit 13 = .ok (.invokevirtual 36, 3) := by decide +kernel
theorem dX0_programLowestBit_16 : decode cX0_programLowestBit 16 = .ok (.return_, 1) := by decide +kernel
set_option maxRecDepth 20000 in
theorem ggX0_word_X0_at : GoodIn wsX0_word wsX0_at := goodIn_r _ [5, 6, 7, 8, 9, 10, 11, 12] (by decide +kernel) (by decide +kernel)
set_option maxRecDepth 20000 in
theorem gX0_word_X0_at : GoodIn wsX0_word (wsV RX0 44 RX0 yX0_at wsX0_at) := goodIn_app (goodIn_of _ (by decide +kernel)) ggX0_word_X0_at
theorem dX0_word_0 : decode cX0_word 0 = .ok (.iconst 0, 1) := by decide +kernel
theorem dX0_word_1 : decode cX0_word 1 = .ok (.istore_n 2, 1) := by decide +kernel
theorem dX0_word_2 : decode cX0_word 2 = .ok (.iconst 0, 1) := by decide +kernel
theorem dX0_word_3 : decode cX0_word 3 = .ok (.istore_n 3, 1) := by decide +kernel
theorem dX0_word_4 : decode cX0_word 4 = .ok (.iload_n 3, 1) := by decide +kernel
theorem dX0_word_5 : decode cX0_word 5 = .ok (.iconst 4, 1) := by decide +kernel
theorem dX0_word_6 : decode cX0_word 6 = .ok (.if_icmp .ge 22, 3) := by decide +kernel
theorem dX0_word_9 : decode cX0_word 9 = .ok (.iload_n 2, 1) := by decide +kernel
theorem dX0_word_10 : decode cX0_word 10 = .ok (.bipush 8, 2) := by decide +kernel
theorem dX0_word_12 : decode cX0_word 12 = .ok (.ishl, 1) := by decide +kernel
theorem dX0_word_13 : decode cX0_word 13 = .ok (.aload_n 0, 1) := by decide +kernel
theorem dX0_word_14 : decode cX0_word 14 = .ok (.iload_n 1, 1) := by decide +kernel
theorem dX0_word_15 : decode cX0_word 15 = .ok (.iload_n 3, 1) := by decide +kernel
theorem dX0_word_16 : decode cX0_word 16 = .ok (.iadd, 1) := by decide +kernel
theorem dX0_word_17 : decode cX0_word 17 = .ok (.invokevirtual 44, 3) := by decide +kernel
theorem dX0_word_20 : decode cX0_word 20 = .ok (.ior, 1) := by decide +kernel
theorem dX0_word_21 : decode cX0_word 21 = .ok (.istore_n 2, 1) := by decide +kernel
theorem dX0_word_22 : decode cX0_word 22 = .ok (.iinc 3 1, 3) := by decide +kernel
theorem dX0_word_25 : decode cX0_word 25 = .ok (.goto (-21), 3) := by decide +kernel
theorem dX0_word_28 : decode cX0_word 28 = .ok (.iload_n 2, 1) := by decide +kernel
theorem dX0_word_29 : decode cX0_word 29 = .ok (.ireturn, 1) := by decide +kernel
set_option maxRecDepth 20000 in
theorem ggX0_digestOf_X0_at : GoodIn wsX0_digestOf wsX0_at := goodIn_r _ [5, 6, 11, 12, 13, 14, 15, 16] (by decide +kernel) (by decide +kernel)
set_option maxRecDepth 20000 in
theorem gX0_digestOf_X0_at : GoodIn wsX0_digestOf (wsV RX0 44 RX0 yX0_at wsX0_at) := goodIn_app (goodIn_of _ (by decide +kernel)) ggX0_digestOf_X0_at
set_option maxRecDepth 20000 in
theorem ggX0_digestOf_X5_digestByte : GoodIn wsX0_digestOf wsX5_digestByte := goodIn_r _ [9, 10] (by decide +kernel) (by decide +kernel)
set_option maxRecDepth 20000 in
theorem gX0_digestOf_X5_digestByte_n48 : GoodIn wsX0_digestOf (wsX5_digestByte) := ggX0_digestOf_X5_digestByte
theorem dX0_digestOf_0 : decode cX0_digestOf 0 = .ok (.iconst 0, 1) := by decide +kernel
theorem dX0_digestOf_1 : decode cX0_digestOf 1 = .ok (.istore_n 3, 1) := by decide +kernel
theorem dX0_digestOf_2 : decode cX0_digestOf 2 = .ok (.iconst 0, 1) := by decide +kernel
theorem dX0_digestOf_3 : decode cX0_digestOf 3 = .ok (.istore 4, 2) := by decide +kernel
theorem dX0_digestOf_5 : decode cX0_digestOf 5 = .ok (.iload 4, 2) := by decide +kernel
theorem dX0_digestOf_7 : decode cX0_digestOf 7 = .ok (.iload_n 2, 1) := by decide +kernel
theorem dX0_digestOf_8 : decode cX0_digestOf 8 = .ok (.if_icmp .ge 22, 3) := by decide +kernel
theorem dX0_digestOf_11 : decode cX0_digestOf 11 = .ok (.iload_n 3, 1) := by decide +kernel
theorem dX0_digestOf_12 : decode cX0_digestOf 12 = .ok (.aload_n 0, 1) := by decide +kernel
theorem dX0_digestOf_13 : decode cX0_digestOf 13 = .ok (.iload_n 1, 1) := by decide +kernel
theorem dX0_digestOf_14 : decode cX0_digestOf 14 = .ok (.iload 4, 2) := by decide +kernel
theorem dX0_digestOf_16 : decode cX0_digestOf 16 = .ok (.iadd, 1) := by decide +kernel
theorem dX0_digestOf_17 : decode cX0_digestOf 17 = .ok (.invokevirtual 44, 3) := by decide +kernel
theorem dX0_digestOf_20 : decode cX0_digestOf 20 = .ok (.invokestatic 48, 3) := by decide +kernel
theorem dX0_digestOf_23 : decode cX0_digestOf 23 = .ok (.istore_n 3, 1) := by decide +kernel
theorem dX0_digestOf_24 : decode cX0_digestOf 24 = .ok (.iinc 4 1, 3) := by decide +kernel
theorem dX0_digestOf_27 : decode cX0_digestOf 27 = .ok (.goto (-22), 3) := by decide +kernel
theorem dX0_digestOf_30 : decode cX0_digestOf 30 = .ok (.iload_n 3, 1) := by decide +kernel
theorem dX0_digestOf_31 : decode cX0_digestOf 31 = .ok (.ireturn, 1) := by decide +kernel
theorem dX1_init_0 : decode cX1_init 0 = .ok (.aload_n 0, 1) := by decide +kernel
theorem dX1_init_1 : decode cX1_init 1 = .ok (.invokespecial 3, 3) := by decide +kernel
theorem dX1_init_4 : decode cX1_init 4 = .ok (.aload_n 0, 1) := by decide +kernel
theorem dX1_init_5 : decode cX1_init 5 = .ok (.bipush 20, 2) := by decide +kernel
theorem dX1_init_7 : decode cX1_init 7 = .ok (.newarray .int, 2) := by decide +kernel
theorem dX1_init_9 : decode cX1_init 9 = .ok (.putfield 11, 3) := by decide +kernel
theorem dX1_init_12 : decode cX1_init 12 = .ok (.return_, 1) := by decide +kernel
theorem dX1_readTape_0 : decode cX1_readTape 0 = .ok (.aload_n 1, 1) := by decide +kernel
theorem dX1_readTape_1 : decode cX1_readTape 1 = .ok (.getfield 15, 3) := by decide +kernel
theorem dX1_readTape_4 : decode cX1_readTape 4 = .ok (.iconst 0, 1) := by decide +kernel
theorem dX1_readTape_5 : decode cX1_readTape 5 = .ok (.aload_n 0, 1) := by decide +kernel
theorem dX1_readTape_6 : decode cX1_readTape 6 = .ok (.getfield 11, 3) := by decide +kernel
theorem dX1_readTape_9 : decode cX1_readTape 9 = .ok (.iconst 0, 1) := by decide +kernel
theorem dX1_readTape_10 : decode cX1_readTape 10 = .ok (.bipush 20, 2) := by decide +kernel
theorem dX1_readTape_12 : decode cX1_readTape 12 = .ok (.invokestatic 18, 3) := by decide +kernel
theorem dX1_readTape_15 : decode cX1_readTape 15 = .ok (.return_, 1) := by decide +kernel
set_option maxRecDepth 20000 in
theorem ggX1_readPage_X0_at : GoodIn wsX1_readPage wsX0_at := goodIn_r _ [6, 7, 9, 10, 11, 12, 13, 14] (by decide +kernel) (by decide +kernel)
set_option maxRecDepth 20000 in
theorem gX1_readPage_X0_at : GoodIn wsX1_readPage (wsV RX1 24 RX0 yX0_at wsX0_at) := goodIn_app (goodIn_of _ (by decide +kernel)) ggX1_readPage_X0_at
theorem dX1_readPage_0 : decode cX1_readPage 0 = .ok (.iconst 0, 1) := by decide +kernel
theorem dX1_readPage_1 : decode cX1_readPage 1 = .ok (.istore_n 2, 1) := by decide +kernel
theorem dX1_readPage_2 : decode cX1_readPage 2 = .ok (.iload_n 2, 1) := by decide +kernel
theorem dX1_readPage_3 : decode cX1_readPage 3 = .ok (.bipush 20, 2) := by decide +kernel
theorem dX1_readPage_5 : decode cX1_readPage 5 = .ok (.if_icmp .ge 24, 3) := by decide +kernel
theorem dX1_readPage_8 : decode cX1_readPage 8 = .ok (.aload_n 0, 1) := by decide +kernel
theorem dX1_readPage_9 : decode cX1_readPage 9 = .ok (.getfield 11, 3) := by decide +kernel
theorem dX1_readPage_12 : decode cX1_readPage 12 = .ok (.iload_n 2, 1) := by decide +kernel
theorem dX1_readPage_13 : decode cX1_readPage 13 = .ok (.aload_n 1, 1) := by decide +kernel
theorem dX1_readPage_14 : decode cX1_readPage 14 = .ok (.sipush 640, 3) := by decide +kernel
theorem dX1_readPage_17 : decode cX1_readPage 17 = .ok (.iload_n 2, 1) := by decide +kernel
theorem dX1_readPage_18 : decode cX1_readPage 18 = .ok (.iadd, 1) := by decide +kernel
theorem dX1_readPage_19 : decode cX1_readPage 19 = .ok (.invokevirtual 24, 3) := by decide +kernel
theorem dX1_readPage_22 : decode cX1_readPage 22 = .ok (.iastore, 1) := by decide +kernel
theorem dX1_readPage_23 : decode cX1_readPage 23 = .ok (.iinc 2 1, 3) := by decide +kernel
theorem dX1_readPage_26 : decode cX1_readPage 26 = .ok (.goto (-24), 3) := by decide +kernel
theorem dX1_readPage_29 : decode cX1_readPage 29 = .ok (.return_, 1) := by decide +kernel
set_option maxRecDepth 20000 in
theorem ggX1_standsIn_X0_at : GoodIn wsX1_standsIn wsX0_at := goodIn_r _ [6, 7, 9, 10, 11, 12, 13, 14] (by decide +kernel) (by decide +kernel)
set_option maxRecDepth 20000 in
theorem gX1_standsIn_X0_at : GoodIn wsX1_standsIn (wsV RX1 24 RX0 yX0_at wsX0_at) := goodIn_app (goodIn_of _ (by decide +kernel)) ggX1_standsIn_X0_at
theorem dX1_standsIn_0 : decode cX1_standsIn 0 = .ok (.iconst 0, 1) := by decide +kernel
theorem dX1_standsIn_1 : decode cX1_standsIn 1 = .ok (.istore_n 2, 1) := by decide +kernel
theorem dX1_standsIn_2 : decode cX1_standsIn 2 = .ok (.iload_n 2, 1) := by decide +kernel
theorem dX1_standsIn_3 : decode cX1_standsIn 3 = .ok (.bipush 20, 2) := by decide +kernel
theorem dX1_standsIn_5 : decode cX1_standsIn 5 = .ok (.if_icmp .ge 29, 3) := by decide +kernel
theorem dX1_standsIn_8 : decode cX1_standsIn 8 = .ok (.aload_n 0, 1) := by decide +kernel
theorem dX1_standsIn_9 : decode cX1_standsIn 9 = .ok (.getfield 11, 3) := by decide +kernel
theorem dX1_standsIn_12 : decode cX1_standsIn 12 = .ok (.iload_n 2, 1) := by decide +kernel
theorem dX1_standsIn_13 : decode cX1_standsIn 13 = .ok (.iaload, 1) := by decide +kernel
theorem dX1_standsIn_14 : decode cX1_standsIn 14 = .ok (.aload_n 1, 1) := by decide +kernel
theorem dX1_standsIn_15 : decode cX1_standsIn 15 = .ok (.sipush 640, 3) := by decide +kernel
theorem dX1_standsIn_18 : decode cX1_standsIn 18 = .ok (.iload_n 2, 1) := by decide +kernel
theorem dX1_standsIn_19 : decode cX1_standsIn 19 = .ok (.iadd, 1) := by decide +kernel
theorem dX1_standsIn_20 : decode cX1_standsIn 20 = .ok (.invokevirtual 24, 3) := by decide +kernel
theorem dX1_standsIn_23 : decode cX1_standsIn 23 = .ok (.if_icmp .eq 5, 3) := by decide +kernel
theorem dX1_standsIn_26 : decode cX1_standsIn 26 = .ok (.iconst 0, 1) := by decide +kernel
theorem dX1_standsIn_27 : decode cX1_standsIn 27 = .ok (.ireturn, 1) := by decide +kernel
theorem dX1_standsIn_28 : decode cX1_standsIn 28 = .ok (.iinc 2 1, 3) := by decide +kernel
theorem dX1_standsIn_31 : decode cX1_standsIn 31 = .ok (.goto (-29), 3) := by decide +kernel
theorem dX1_standsIn_34 : decode cX1_standsIn 34 = .ok (.iconst 1, 1) := by decide +kernel
theorem dX1_standsIn_35 : decode cX1_standsIn 35 = .ok (.ireturn, 1) := by decide +kernel
theorem dX1_vendor_0 : decode cX1_vendor 0 = .ok (.aload_n 0, 1) := by decide +kernel
theorem dX1_vendor_1 : decode cX1_vendor 1 = .ok (.getfield 11, 3) := by decide +kernel
theorem dX1_vendor_4 : decode cX1_vendor 4 = .ok (.iconst 0, 1) := by decide +kernel
theorem dX1_vendor_5 : decode cX1_vendor 5 = .ok (.iaload, 1) := by decide +kernel
theorem dX1_vendor_6 : decode cX1_vendor 6 = .ok (.ireturn, 1) := by decide +kernel
theorem dX1_sequence_0 : decode cX1_sequence 0 = .ok (.aload_n 0, 1) := by decide +kernel
theorem dX1_sequence_1 : decode cX1_sequence 1 = .ok (.getfield 11, 3) := by decide +kernel
theorem dX1_sequence_4 : decode cX1_sequence 4 = .ok (.iconst 1, 1) := by decide +kernel
theorem dX1_sequence_5 : decode cX1_sequence 5 = .ok (.iaload, 1) := by decide +kernel
theorem dX1_sequence_6 : decode cX1_sequence 6 = .ok (.ireturn, 1) := by decide +kernel
set_option maxRecDepth 20000 in
theorem ggX1_baseDigest_X1_word : GoodIn wsX1_baseDigest wsX1_word := goodIn_r _ [5, 6, 7] (by decide +kernel) (by decide +kernel)
set_option maxRecDepth 20000 in
theorem gX1_baseDigest_X1_word : GoodIn wsX1_baseDigest (wsV RX1 30 RX1 yX1_word wsX1_word) := goodIn_app (goodIn_of _ (by decide +kernel)) ggX1_baseDigest_X1_word
theorem dX1_baseDigest_0 : decode cX1_baseDigest 0 = .ok (.aload_n 0, 1) := by decide +kernel
theorem dX1_baseDigest_1 : decode cX1_baseDigest 1 = .ok (.iconst 2, 1) := by decide +kernel
theorem dX1_baseDigest_2 : decode cX1_baseDigest 2 = .ok (.invokevirtual 30, 3) := by decide +kernel
theorem dX1_baseDigest_5 : decode cX1_baseDigest 5 = .ok (.ireturn, 1) := by decide +kernel
theorem dX1_payloadLength_0 : decode cX1_payloadLength 0 = .ok (.aload_n 0, 1) := by decide +kernel
theorem dX1_payloadLength_1 : decode cX1_payloadLength 1 = .ok (.getfield 11, 3) := by decide +kernel
theorem dX1_payloadLength_4 : decode cX1_payloadLength 4 = .ok (.bipush 6, 2) := by decide +kernel
theorem dX1_payloadLength_6 : decode cX1_payloadLength 6 = .ok (.iaload, 1) := by decide +kernel
theorem dX1_payloadLength_7 : decode cX1_payloadLength 7 = .ok (.ireturn, 1) := by decide +kernel
set_option maxRecDepth 20000 in
theorem ggX1_payloadDigest_X1_word : GoodIn wsX1_payloadDigest wsX1_word := goodIn_r _ [5, 6, 7] (by decide +kernel) (by decide +kernel)
set_option maxRecDepth 20000 in
theorem gX1_payloadDigest_X1_word : GoodIn wsX1_payloadDigest (wsV RX1 30 RX1 yX1_word wsX1_word) := goodIn_app (goodIn_of _ (by decide +kernel)) ggX1_payloadDigest_X1_word
theorem dX1_payloadDigest_0 : decode cX1_payloadDigest 0 = .ok (.aload_n 0, 1) := by decide +kernel
theorem dX1_payloadDigest_1 : decode cX1_payloadDigest 1 = .ok (.bipush 7, 2) := by decide +kernel
theorem dX1_payloadDigest_3 : decode cX1_payloadDigest 3 = .ok (.invokevirtual 30, 3) := by decide +kernel
theorem dX1_payloadDigest_6 : decode cX1_payloadDigest 6 = .ok (.ireturn, 1) := by decide +kernel
theorem dX1_imageLength_0 : decode cX1_imageLength 0 = .ok (.aload_n 0, 1) := by decide +kernel
theorem dX1_imageLength_1 : decode cX1_imageLength 1 = .ok (.getfield 11, 3) := by decide +kernel
theorem dX1_imageLength_4 : decode cX1_imageLength 4 = .ok (.bipush 11, 2) := by decide +kernel
theorem dX1_imageLength_6 : decode cX1_imageLength 6 = .ok (.iaload, 1) := by decide +kernel
theorem dX1_imageLength_7 : decode cX1_imageLength 7 = .ok (.ireturn, 1) := by decide +kernel
set_option maxRecDepth 20000 in
theorem ggX1_imageDigest_X1_word : GoodIn wsX1_imageDigest wsX1_word := goodIn_r _ [5, 6, 7] (by decide +kernel) (by decide +kernel)
set_option maxRecDepth 20000 in
theorem gX1_imageDigest_X1_word : GoodIn wsX1_imageDigest (wsV RX1 30 RX1 yX1_word wsX1_word) := goodIn_app (goodIn_of _ (by decide +kernel)) ggX1_imageDigest_X1_word
theorem dX1_imageDigest_0 : decode cX1_imageDigest 0 = .ok (.aload_n 0, 1) := by decide +kernel
theorem dX1_imageDigest_1 : decode cX1_imageDigest 1 = .ok (.bipush 12, 2) := by decide +kernel
theorem dX1_imageDigest_3 : decode cX1_imageDigest 3 = .ok (.invokevirtual 30, 3) := by decide +kernel
theorem dX1_imageDigest_6 : decode cX1_imageDigest 6 = .ok (.ireturn, 1) := by decide +kernel
set_option maxRecDepth 20000 in
theorem ggX1_isInRange_X1_sequence : GoodIn wsX1_isInRange wsX1_sequence := goodIn_r _ [5, 6, 20] (by decide +kernel) (by decide +kernel)
set_option maxRecDepth 20000 in
theorem gX1_isInRange_X1_sequence : GoodIn wsX1_isInRange (wsV RX1 33 RX1 yX1_sequence wsX1_sequence) := goodIn_app (goodIn_of _ (by decide +kernel)) ggX1_isInRange_X1_sequence
set_option maxRecDepth 20000 in
theorem ggX1_isInRange_X5_isSequence : GoodIn wsX1_isInRange wsX5_isSequence := goodIn_r _ [9] (by decide +kernel) (by decide +kernel)
set_option maxRecDepth 20000 in
theorem gX1_isInRange_X5_isSequence_n37 : GoodIn wsX1_isInRange (wsX5_isSequence) := ggX1_isInRange_X5_isSequence
set_option maxRecDepth 20000 in
theorem ggX1_isInRange_X1_payloadLength : GoodIn wsX1_isInRange wsX1_payloadLength := goodIn_r _ [13, 6, 20] (by decide +kernel) (by decide +kernel)
set_option maxRecDepth 20000 in
theorem gX1_isInRange_X1_payloadLength : GoodIn wsX1_isInRange (wsV RX1 41 RX1 yX1_payloadLength wsX1_payloadLength) := goodIn_app (goodIn_of _ (by decide +kernel)) ggX1_isInRange_X1_payloadLength
set_option maxRecDepth 20000 in
theorem ggX1_isInRange_X5_isLength : GoodIn wsX1_isInRange wsX5_isLength := goodIn_r _ [15] (by decide +kernel) (by decide +kernel)
set_option maxRecDepth 20000 in
theorem gX1_isInRange_X5_isLength_n44 : GoodIn wsX1_isInRange (wsX5_isLength) := ggX1_isInRange_X5_isLength
set_option maxRecDepth 20000 in
theorem ggX1_isInRange_X1_imageLength : GoodIn wsX1_isInRange wsX1_imageLength := goodIn_r _ [19, 6, 20] (by decide +kernel) (by decide +kernel)
set_option maxRecDepth 20000 in
theorem gX1_isInRange_X1_imageLength : GoodIn wsX1_isInRange (wsV RX1 47 RX1 yX1_imageLength wsX1_imageLength) := goodIn_app (goodIn_of _ (by decide +kernel)) ggX1_isInRange_X1_imageLength
theorem dX1_isInRange_0 : decode cX1_isInRange 0 = .ok (.aload_n 0, 1) := by decide +kernel
theorem dX1_isInRange_1 : decode cX1_isInRange 1 = .ok (.invokevirtual 33, 3) := by decide +kernel
theorem dX1_isInRange_4 : decode cX1_isInRange 4 = .ok (.invokestatic 37, 3) := by decide +kernel
theorem dX1_isInRange_7 : decode cX1_isInRange 7 = .ok (.ifCond .eq 27, 3) := by decide +kernel
theorem dX1_isInRange_10 : decode cX1_isInRange 10 = .ok (.aload_n 0, 1) := by decide +kernel
theorem dX1_isInRange_11 : decode cX1_isInRange 11 = .ok (.invokevirtual 41, 3) := by decide +kernel
theorem dX1_isInRange_14 : decode cX1_isInRange 14 = .ok (.invokestatic 44, 3) := by decide +kernel
theorem dX1_isInRange_17 : decode cX1_isInRange 17 = .ok (.ifCond .eq 17, 3) := by decide +kernel
theorem dX1_isInRange_20 : decode cX1_isInRange 20 = .ok (.aload_n 0, 1) := by decide +kernel
theorem dX1_isInRange_21 : decode cX1_isInRange 21 = .ok (.invokevirtual 47, 3) := by decide +kernel
theorem dX1_isInRange_24 : decode cX1_isInRange 24 = .ok (.invokestatic 44, 3) := by decide +kernel
theorem dX1_isInRange_27 : decode cX1_isInRange 27 = .ok (.ifCond .eq 7, 3) := by decide +kernel
theorem dX1_isInRange_30 : decode cX1_isInRange 30 = .ok (.iconst 1, 1) := by decide +kernel
theorem dX1_isInRange_31 : decode cX1_isInRange 31 = .ok (.goto 4, 3) := by decide +kernel
theorem dX1_isInRange_34 : decode cX1_isInRange 34 = .ok (.iconst 0, 1) := by decide +kernel
theorem dX1_isInRange_35 : decode cX1_isInRange 35 = .ok (.ireturn, 1) := by decide +kernel
set_option maxRecDepth 20000 in
theorem ggX1_isTagged_X5_digest : GoodIn wsX1_isTagged wsX5_digest := goodIn_r _ [4, 5, 6, 3, 7, 8] (by decide +kernel) (by decide +kernel)
set_option maxRecDepth 20000 in
theorem gX1_isTagged_X5_digest_n50 : GoodIn wsX1_isTagged (wsX5_digest) := ggX1_isTagged_X5_digest
set_option maxRecDepth 20000 in
theorem ggX1_isTagged_X1_word : GoodIn wsX1_isTagged wsX1_word := goodIn_r _ [13, 1, 14] (by decide +kernel) (by decide +kernel)
set_option maxRecDepth 20000 in
theorem gX1_isTagged_X1_word : GoodIn wsX1_isTagged (wsV RX1 30 RX1 yX1_word wsX1_word) := goodIn_app (goodIn_of _ (by decide +kernel)) ggX1_isTagged_X1_word
theorem dX1_isTagged_0 : decode cX1_isTagged 0 = .ok (.iconst 0, 1) := by decide +kernel
theorem dX1_isTagged_1 : decode cX1_isTagged 1 = .ok (.aload_n 1, 1) := by decide +kernel
theorem dX1_isTagged_2 : decode cX1_isTagged 2 = .ok (.aload_n 1, 1) := by decide +kernel
theorem dX1_isTagged_3 : decode cX1_isTagged 3 = .ok (.arraylength, 1) := by decide +kernel
theorem dX1_isTagged_4 : decode cX1_isTagged 4 = .ok (.invokestatic 50, 3) := by decide +kernel
theorem dX1_isTagged_7 : decode cX1_isTagged 7 = .ok (.aload_n 0, 1) := by decide +kernel
theorem dX1_isTagged_8 : decode cX1_isTagged 8 = .ok (.getfield 11, 3) := by decide +kernel
theorem dX1_isTagged_11 : decode cX1_isTagged 11 = .ok (.bipush 16, 2) := by decide +kernel
theorem dX1_isTagged_13 : decode cX1_isTagged 13 = .ok (.invokestatic 50, 3) := by decide +kernel
theorem dX1_isTagged_16 : decode cX1_isTagged 16 = .ok (.aload_n 0, 1) := by decide +kernel
theorem dX1_isTagged_17 : decode cX1_isTagged 17 = .ok (.bipush 16, 2) := by decide +kernel
theorem dX1_isTagged_19 : decode cX1_isTagged 19 = .ok (.invokevirtual 30, 3) := by decide +kernel
theorem dX1_isTagged_22 : decode cX1_isTagged 22 = .ok (.if_icmp .ne 7, 3) := by decide +kernel
theorem dX1_isTagged_25 : decode cX1_isTagged 25 = .ok (.iconst 1, 1) := by decide +kernel
theorem dX1_isTagged_26 : decode cX1_isTagged 26 = .ok (.goto 4, 3) := by decide +kernel
theorem dX1_isTagged_29 : decode cX1_isTagged 29 = .ok (.iconst 0, 1) := by decide +kernel
theorem dX1_isTagged_30 : decode cX1_isTagged 30 = .ok (.ireturn, 1) := by decide +kernel
theorem dX1_word_0 : decode cX1_word 0 = .ok (.iconst 0, 1) := by decide +kernel
theorem dX1_word_1 : decode cX1_word 1 = .ok (.istore_n 2, 1) := by decide +kernel
theorem dX1_word_2 : decode cX1_word 2 = .ok (.iload_n 1, 1) := by decide +kernel
theorem dX1_word_3 : decode cX1_word 3 = .ok (.istore_n 3, 1) := by decide +kernel
theorem dX1_word_4 : decode cX1_word 4 = .ok (.iload_n 3, 1) := by decide +kernel
theorem dX1_word_5 : decode cX1_word 5 = .ok (.iload_n 1, 1) := by decide +kernel
theorem dX1_word_6 : decode cX1_word 6 = .ok (.iconst 4, 1) := by decide +kernel
theorem dX1_word_7 : decode cX1_word 7 = .ok (.iadd, 1) := by decide +kernel
theorem dX1_word_8 : decode cX1_word 8 = .ok (.if_icmp .ge 27, 3) := by decide +kernel
theorem dX1_word_11 : decode cX1_word 11 = .ok (.iload_n 3, 1) := by decide +kernel
theorem dX1_word_12 : decode cX1_word 12 = .ok (.bipush 20, 2) := by decide +kernel
theorem dX1_word_14 : decode cX1_word 14 = .ok (.if_icmp .ge 21, 3) := by decide +kernel
theorem dX1_word_17 : decode cX1_word 17 = .ok (.iload_n 2, 1) := by decide +kernel
theorem dX1_word_18 : decode cX1_word 18 = .ok (.bipush 8, 2) := by decide +kernel
theorem dX1_word_20 : decode cX1_word 20 = .ok (.ishl, 1) := by decide +kernel
theorem dX1_word_21 : decode cX1_word 21 = .ok (.aload_n 0, 1) := by decide +kernel
theorem dX1_word_22 : decode cX1_word 22 = .ok (.getfield 11, 3) := by decide +kernel
theorem dX1_word_25 : decode cX1_word 25 = .ok (.iload_n 3, 1) := by decide +kernel
theorem dX1_word_26 : decode cX1_word 26 = .ok (.iaload, 1) := by decide +kernel
theorem dX1_word_27 : decode cX1_word 27 = .ok (.ior, 1) := by decide +kernel
theorem dX1_word_28 : decode cX1_word 28 = .ok (.istore_n 2, 1) := by decide +kernel
theorem dX1_word_29 : decode cX1_word 29 = .ok (.iinc 3 1, 3) := by decide +kernel
theorem dX1_word_32 : decode cX1_word 32 = .ok (.goto (-28), 3) := by decide +kernel
theorem dX1_word_35 : decode cX1_word 35 = .ok (.iload_n 2, 1) := by decide +kernel
theorem dX1_word_36 : decode cX1_word 36 = .ok (.ireturn, 1) := by decide +kernel
theorem dX2_init_0 : decode cX2_init 0 = .ok (.aload_n 0, 1) := by decide +kernel
theorem dX2_init_1 : decode cX2_init 1 = .ok (.invokespecial 3, 3) := by decide +kernel
theorem dX2_init_4 : decode cX2_init 4 = .ok (.aload_n 0, 1) := by decide +kernel
theorem dX2_init_5 : decode cX2_init 5 = .ok (.sipush 192, 3) := by decide +kernel
theorem dX2_init_8 : decode cX2_init 8 = .ok (.newarray .int, 2) := by decide +kernel
theorem dX2_init_10 : decode cX2_init 10 = .ok (.putfield 9, 3) := by decide +kernel
theorem dX2_init_13 : decode cX2_init 13 = .ok (.aload_n 0, 1) := by decide +kernel
theorem dX2_init_14 : decode cX2_init 14 = .ok (.iconst 0, 1) := by decide +kernel
theorem dX2_init_15 : decode cX2_init 15 = .ok (.putfield 15, 3) := by decide +kernel
theorem dX2_init_18 : decode cX2_init 18 = .ok (.return_, 1) := by decide +kernel
set_option maxRecDepth 20000 in
theorem ggX2_unfold_X0_at : GoodIn wsX2_unfold wsX0_at := goodIn_r _ [6, 7, 20, 21, 22, 23, 24, 25] (by decide +kernel) (by decide +kernel)
set_option maxRecDepth 20000 in
theorem gX2_unfold_X0_at : GoodIn wsX2_unfold (wsV RX2 19 RX0 yX0_at wsX0_at) := goodIn_app (goodIn_of _ (by decide +kernel)) ggX2_unfold_X0_at
set_option maxRecDepth 20000 in
theorem ggX2_unfold_X2_take : GoodIn wsX2_unfold wsX2_take := goodIn_r _ [12, 1, 13, 2, 3, 4, 5, 6, 7, 18, 19, 20, 21, 22, 23, 24, 25] (by decide +kernel) (by decide +kernel)
set_option maxRecDepth 20000 in
theorem gX2_unfold_X2_take : GoodIn wsX2_unfold (wsV RX2 25 RX2 yX2_take wsX2_take) := goodIn_app (goodIn_of _ (by decide +kernel)) ggX2_unfold_X2_take
set_option maxRecDepth 20000 in
theorem ggX2_unfold_X2_takeBase : GoodIn wsX2_unfold wsX2_takeBase := goodIn_r _ [17, 8, 9, 10, 11, 12, 1, 13, 2, 3, 4, 5, 6, 7, 18, 19, 20, 21, 22, 23, 24, 25] (by decide +kernel) (by decide +kernel)
set_option maxRecDepth 20000 in
theorem gX2_unfold_X2_takeBase : GoodIn wsX2_unfold (wsV RX2 29 RX2 yX2_takeBase wsX2_takeBase) := goodIn_app (goodIn_of _ (by decide +kernel)) ggX2_unfold_X2_takeBase
theorem dX2_unfold_0 : decode cX2_unfold 0 = .ok (.aload_n 0, 1) := by decide +kernel
theorem dX2_unfold_1 : decode cX2_unfold 1 = .ok (.iconst 0, 1) := by decide +kernel
theorem dX2_unfold_2 : decode cX2_unfold 2 = .ok (.putfield 15, 3) := by decide +kernel
theorem dX2_unfold_5 : decode cX2_unfold 5 = .ok (.iconst 0, 1) := by decide +kernel
theorem dX2_unfold_6 : decode cX2_unfold 6 = .ok (.istore 5, 2) := by decide +kernel
theorem dX2_unfold_8 : decode cX2_unfold 8 = .ok (.iload 5, 2) := by decide +kernel
theorem dX2_unfold_10 : decode cX2_unfold 10 = .ok (.iload_n 2, 1) := by decide +kernel
theorem dX2_unfold_11 : decode cX2_unfold 11 = .ok (.if_icmp .ge 114, 3) := by decide +kernel
theorem dX2_unfold_14 : decode cX2_unfold 14 = .ok (.aload_n 1, 1) := by decide +kernel
theorem dX2_unfold_15 : decode cX2_unfold 15 = .ok (.sipush 448, 3) := by decide +kernel
theorem dX2_unfold_18 : decode cX2_unfold 18 = .ok (.iload 5, 2) := by decide +kernel
theorem dX2_unfold_20 : decode cX2_unfold 20 = .ok (.iadd, 1) := by decide +kernel
theorem dX2_unfold_21 : decode cX2_unfold 21 = .ok (.invokevirtual 19, 3) := by decide +kernel
theorem dX2_unfold_24 : decode cX2_unfold 24 = .ok (.istore 6, 2) := by decide +kernel
theorem dX2_unfold_26 : decode cX2_unfold 26 = .ok (.sipush 448, 3) := by decide +kernel
theorem dX2_unfold_29 : decode cX2_unfold 29 = .ok (.iload 5, 2) := by decide +kernel
theorem dX2_unfold_31 : decode cX2_unfold 31 = .ok (.iadd, 1) := by decide +kernel
theorem dX2_unfold_32 : decode cX2_unfold 32 = .ok (.iconst 1, 1) := by decide +kernel
theorem dX2_unfold_33 : decode cX2_unfold 33 = .ok (.iadd, 1) := by decide +kernel
theorem dX2_unfold_34 : decode cX2_unfold 34 = .ok (.istore 7, 2) := by decide +kernel
theorem dX2_unfold_36 : decode cX2_unfold 36 = .ok (.iload 6, 2) := by decide +kernel
theorem dX2_unfold_38 : decode cX2_unfold 38 = .ok (.sipush 128, 3) := by decide +kernel
theorem dX2_unfold_41 : decode cX2_unfold 41 = .ok (.if_icmp .ge 41, 3) := by decide +kernel
theorem dX2_unfold_44 : decode cX2_unfold 44 = .ok (.iload 6, 2) := by decide +kernel
theorem dX2_unfold_46 : decode cX2_unfold 46 = .ok (.iconst 1, 1) := by decide +kernel
theorem dX2_unfold_47 : decode cX2_unfold 47 = .ok (.iadd, 1) := by decide +kernel
theorem dX2_unfold_48 : decode cX2_unfold 48 = .ok (.istore 8, 2) := by decide +kernel
theorem dX2_unfold_50 : decode cX2_unfold 50 = .ok (.iload 5, 2) := by decide +kernel
theorem dX2_unfold_52 : decode cX2_unfold 52 = .ok (.iconst 1, 1) := by decide +kernel
theorem dX2_unfold_53 : decode cX2_unfold 53 = .ok (.iload 8, 2) := by decide +kernel
theorem dX2_unfold_55 : decode cX2_unfold 55 = .ok (.iadd, 1) := by decide +kernel
theorem dX2_unfold_56 : decode cX2_unfold 56 = .ok (.iadd, 1) := by decide +kernel
theorem dX2_unfold_57 : decode cX2_unfold 57 = .ok (.istore 5, 2) := by decide +kernel
theorem dX2_unfold_59 : decode cX2_unfold 59 = .ok (.iload 5, 2) := by decide +kernel
theorem dX2_unfold_61 : decode cX2_unfold 61 = .ok (.iload_n 2, 1) := by decide +kernel
theorem dX2_unfold_62 : decode cX2_unfold 62 = .ok (.if_icmp .gt 15, 3) := by decide +kernel
theorem dX2_unfold_65 : decode cX2_unfold 65 = .ok (.aload_n 0, 1) := by decide +kernel
theorem dX2_unfold_66 : decode cX2_unfold 66 = .ok (.aload_n 1, 1) := by decide +kernel
theorem dX2_unfold_67 : decode cX2_unfold 67 = .ok (.iload 7, 2) := by decide +kernel
theorem dX2_unfold_69 : decode cX2_unfold 69 = .ok (.iload 8, 2) := by decide +kernel
theorem dX2_unfold_71 : decode cX2_unfold 71 = .ok (.invokevirtual 25, 3) := by decide +kernel
theorem dX2_unfold_74 : decode cX2_unfold 74 = .ok (.ifCond .ne 5, 3) := by decide +kernel
theorem dX2_unfold_77 : decode cX2_unfold 77 = .ok (.iconst 0, 1) := by decide +kernel
theorem dX2_unfold_78 : decode cX2_unfold 78 = .ok (.ireturn, 1) := by decide +kernel
theorem dX2_unfold_79 : decode cX2_unfold 79 = .ok (.goto 43, 3) := by decide +kernel
theorem dX2_unfold_82 : decode cX2_unfold 82 = .ok (.iload 6, 2) := by decide +kernel
theorem dX2_unfold_84 : decode cX2_unfold 84 = .ok (.sipush 128, 3) := by decide +kernel
theorem dX2_unfold_87 : decode cX2_unfold 87 = .ok (.isub, 1) := by decide +kernel
theorem dX2_unfold_88 : decode cX2_unfold 88 = .ok (.iconst 1, 1) := by decide +kernel
theorem dX2_unfold_89 : decode cX2_unfold 89 = .ok (.iadd, 1) := by decide +kernel
theorem dX2_unfold_90 : decode cX2_unfold 90 = .ok (.istore 8, 2) := by decide +kernel
theorem dX2_unfold_92 : decode cX2_unfold 92 = .ok (.iinc 5 2, 3) := by decide +kernel
theorem dX2_unfold_95 : decode cX2_unfold 95 = .ok (.iload 5, 2) := by decide +kernel
theorem dX2_unfold_97 : decode cX2_unfold 97 = .ok (.iload_n 2, 1) := by decide +kernel
theorem dX2_unfold_98 : decode cX2_unfold 98 = .ok (.if_icmp .gt 22, 3) := by decide +kernel
theorem dX2_unfold_101 : decode cX2_unfold 101 = .ok (.aload_n 0, 1) := by decide +kernel
theorem dX2_unfold_102 : decode cX2_unfold 102 = .ok (.aload_n 1, 1) := by decide +kernel
theorem dX2_unfold_103 : decode cX2_unfold 103 = .ok (.iload_n 3, 1) := by decide +kernel
theorem dX2_unfold_104 : decode cX2_unfold 104 = .ok (.iload 4, 2) := by decide +kernel
theorem dX2_unfold_106 : decode cX2_unfold 106 = .ok (.aload_n 1, 1) := by decide +kernel
theorem dX2_unfold_107 : decode cX2_unfold 107 = .ok (.iload 7, 2) := by decide +kernel
theorem dX2_unfold_109 : decode cX2_unfold 109 = .ok (.invokevirtual 19, 3) := by decide +kernel
theorem dX2_unfold_112 : decode cX2_unfold 112 = .ok (.iload 8, 2) := by decide +kernel
end
section
theorem dX2_unfold_114 : decode cX2_unfold 114 = .ok (.invokevirtual 29, 3) := by decide +kernel
theorem dX2_unfold_117 : decode cX2_unfold 117 = .ok (.ifCond .ne 5, 3) := by decide +kernel
theorem dX2_unfold_120 : decode cX2_unfold 120 = .ok (.iconst 0, 1) := by decide +kernel
theorem dX2_unfold_121 : decode cX2_unfold 121 = .ok (.ireturn, 1) := by decide +kernel
theorem dX2_unfold_122 : decode cX2_unfold 122 = .ok (.goto (-114), 3) := by decide +kernel
theorem dX2_unfold_125 : decode cX2_unfold 125 = .ok (.iconst 1, 1) := by decide +kernel
theorem dX2_unfold_126 : decode cX2_unfold 126 = .ok (.ireturn, 1) := by decide +kernel
set_option maxRecDepth 20000 in
theorem ggX2_takeBase_X2_take : GoodIn wsX2_takeBase wsX2_take := goodIn_r _ [5, 6, 7, 8, 9, 10, 11, 12, 13, 14, 15, 16, 17, 18, 19, 20, 21] (by decide +kernel) (by decide +kernel)
set_option maxRecDepth 20000 in
theorem gX2_takeBase_X2_take : GoodIn wsX2_takeBase (wsV RX2 25 RX2 yX2_take wsX2_take) := goodIn_app (goodIn_of _ (by decide +kernel)) ggX2_takeBase_X2_take
theorem dX2_takeBase_0 : decode cX2_takeBase 0 = .ok (.iload 4, 2) := by decide +kernel
theorem dX2_takeBase_2 : decode cX2_takeBase 2 = .ok (.iload 5, 2) := by decide +kernel
theorem dX2_takeBase_4 : decode cX2_takeBase 4 = .ok (.iadd, 1) := by decide +kernel
theorem dX2_takeBase_5 : decode cX2_takeBase 5 = .ok (.iload_n 3, 1) := by decide +kernel
theorem dX2_takeBase_6 : decode cX2_takeBase 6 = .ok (.if_icmp .gt 21, 3) := by decide +kernel
theorem dX2_takeBase_9 : decode cX2_takeBase 9 = .ok (.aload_n 0, 1) := by decide +kernel
theorem dX2_takeBase_10 : decode cX2_takeBase 10 = .ok (.aload_n 1, 1) := by decide +kernel
theorem dX2_takeBase_11 : decode cX2_takeBase 11 = .ok (.iload_n 2, 1) := by decide +kernel
theorem dX2_takeBase_12 : decode cX2_takeBase 12 = .ok (.iload 4, 2) := by decide +kernel
theorem dX2_takeBase_14 : decode cX2_takeBase 14 = .ok (.iadd, 1) := by decide +kernel
theorem dX2_takeBase_15 : decode cX2_takeBase 15 = .ok (.iload 5, 2) := by decide +kernel
theorem dX2_takeBase_17 : decode cX2_takeBase 17 = .ok (.invokevirtual 25, 3) := by decide +kernel
theorem dX2_takeBase_20 : decode cX2_takeBase 20 = .ok (.ifCond .eq 7, 3) := by decide +kernel
theorem dX2_takeBase_23 : decode cX2_takeBase 23 = .ok (.iconst 1, 1) := by decide +kernel
theorem dX2_takeBase_24 : decode cX2_takeBase 24 = .ok (.goto 4, 3) := by decide +kernel
theorem dX2_takeBase_27 : decode cX2_takeBase 27 = .ok (.iconst 0, 1) := by decide +kernel
theorem dX2_takeBase_28 : decode cX2_takeBase 28 = .ok (.ireturn, 1) := by decide +kernel
set_option maxRecDepth 20000 in
theorem ggX2_take_X0_at : GoodIn wsX2_take wsX0_at := goodIn_r _ [7, 8, 11, 12, 13, 14, 15, 16] (by decide +kernel) (by decide +kernel)
set_option maxRecDepth 20000 in
theorem gX2_take_X0_at : GoodIn wsX2_take (wsV RX2 19 RX0 yX0_at wsX0_at) := goodIn_app (goodIn_of _ (by decide +kernel)) ggX2_take_X0_at
theorem dX2_take_0 : decode cX2_take 0 = .ok (.aload_n 0, 1) := by decide +kernel
theorem dX2_take_1 : decode cX2_take 1 = .ok (.getfield 15, 3) := by decide +kernel
theorem dX2_take_4 : decode cX2_take 4 = .ok (.iload_n 3, 1) := by decide +kernel
theorem dX2_take_5 : decode cX2_take 5 = .ok (.iadd, 1) := by decide +kernel
theorem dX2_take_6 : decode cX2_take 6 = .ok (.sipush 192, 3) := by decide +kernel
theorem dX2_take_9 : decode cX2_take 9 = .ok (.if_icmp .le 5, 3) := by decide +kernel
theorem dX2_take_12 : decode cX2_take 12 = .ok (.iconst 0, 1) := by decide +kernel
theorem dX2_take_13 : decode cX2_take 13 = .ok (.ireturn, 1) := by decide +kernel
theorem dX2_take_14 : decode cX2_take 14 = .ok (.iconst 0, 1) := by decide +kernel
theorem dX2_take_15 : decode cX2_take 15 = .ok (.istore 4, 2) := by decide +kernel
theorem dX2_take_17 : decode cX2_take 17 = .ok (.iload 4, 2) := by decide +kernel
theorem dX2_take_19 : decode cX2_take 19 = .ok (.iload_n 3, 1) := by decide +kernel
theorem dX2_take_20 : decode cX2_take 20 = .ok (.if_icmp .ge 36, 3) := by decide +kernel
theorem dX2_take_23 : decode cX2_take 23 = .ok (.aload_n 0, 1) := by decide +kernel
theorem dX2_take_24 : decode cX2_take 24 = .ok (.getfield 9, 3) := by decide +kernel
theorem dX2_take_27 : decode cX2_take 27 = .ok (.aload_n 0, 1) := by decide +kernel
theorem dX2_take_28 : decode cX2_take 28 = .ok (.getfield 15, 3) := by decide +kernel
theorem dX2_take_31 : decode cX2_take 31 = .ok (.aload_n 1, 1) := by decide +kernel
theorem dX2_take_32 : decode cX2_take 32 = .ok (.iload_n 2, 1) := by decide +kernel
theorem dX2_take_33 : decode cX2_take 33 = .ok (.iload 4, 2) := by decide +kernel
theorem dX2_take_35 : decode cX2_take 35 = .ok (.iadd, 1) := by decide +kernel
theorem dX2_take_36 : decode cX2_take 36 = .ok (.invokevirtual 19, 3) := by decide +kernel
theorem dX2_take_39 : decode cX2_take 39 = .ok (.iastore, 1) := by decide +kernel
theorem dX2_take_40 : decode cX2_take 40 = .ok (.aload_n 0, 1) := by decide +kernel
theorem dX2_take_41 : decode cX2_take 41 = .ok (.dup, 1) := by decide +kernel
theorem dX2_take_42 : decode cX2_take 42 = .ok (.getfield 15, 3) := by decide +kernel
theorem dX2_take_45 : decode cX2_take 45 = .ok (.iconst 1, 1) := by decide +kernel
theorem dX2_take_46 : decode cX2_take 46 = .ok (.iadd, 1) := by decide +kernel
theorem dX2_take_47 : decode cX2_take 47 = .ok (.putfield 15, 3) := by decide +kernel
theorem dX2_take_50 : decode cX2_take 50 = .ok (.iinc 4 1, 3) := by decide +kernel
theorem dX2_take_53 : decode cX2_take 53 = .ok (.goto (-36), 3) := by decide +kernel
theorem dX2_take_56 : decode cX2_take 56 = .ok (.iconst 1, 1) := by decide +kernel
theorem dX2_take_57 : decode cX2_take 57 = .ok (.ireturn, 1) := by decide +kernel
theorem dX3_init_0 : decode cX3_init 0 = .ok (.aload_n 0, 1) := by decide +kernel
theorem dX3_init_1 : decode cX3_init 1 = .ok (.invokespecial 3, 3) := by decide +kernel
theorem dX3_init_4 : decode cX3_init 4 = .ok (.aload_n 0, 1) := by decide +kernel
theorem dX3_init_5 : decode cX3_init 5 = .ok (.iload_n 1, 1) := by decide +kernel
theorem dX3_init_6 : decode cX3_init 6 = .ok (.putfield 9, 3) := by decide +kernel
theorem dX3_init_9 : decode cX3_init 9 = .ok (.aload_n 0, 1) := by decide +kernel
theorem dX3_init_10 : decode cX3_init 10 = .ok (.iload_n 1, 1) := by decide +kernel
theorem dX3_init_11 : decode cX3_init 11 = .ok (.bipush 32, 2) := by decide +kernel
theorem dX3_init_13 : decode cX3_init 13 = .ok (.imul, 1) := by decide +kernel
theorem dX3_init_14 : decode cX3_init 14 = .ok (.putfield 15, 3) := by decide +kernel
theorem dX3_init_17 : decode cX3_init 17 = .ok (.aload_n 0, 1) := by decide +kernel
theorem dX3_init_18 : decode cX3_init 18 = .ok (.iload_n 1, 1) := by decide +kernel
theorem dX3_init_19 : decode cX3_init 19 = .ok (.bipush 6, 2) := by decide +kernel
theorem dX3_init_21 : decode cX3_init 21 = .ok (.iadd, 1) := by decide +kernel
theorem dX3_init_22 : decode cX3_init 22 = .ok (.bipush 32, 2) := by decide +kernel
theorem dX3_init_24 : decode cX3_init 24 = .ok (.imul, 1) := by decide +kernel
theorem dX3_init_25 : decode cX3_init 25 = .ok (.putfield 18, 3) := by decide +kernel
theorem dX3_init_28 : decode cX3_init 28 = .ok (.return_, 1) := by decide +kernel
set_option maxRecDepth 20000 in
theorem ggX3_length_X0_at : GoodIn wsX3_length wsX0_at := goodIn_r _ [6, 7, 11, 12, 13, 14, 15, 16] (by decide +kernel) (by decide +kernel)
set_option maxRecDepth 20000 in
theorem gX3_length_X0_at : GoodIn wsX3_length (wsV RX3 21 RX0 yX0_at wsX0_at) := goodIn_app (goodIn_of _ (by decide +kernel)) ggX3_length_X0_at
theorem dX3_length_0 : decode cX3_length 0 = .ok (.aload_n 1, 1) := by decide +kernel
theorem dX3_length_1 : decode cX3_length 1 = .ok (.aload_n 0, 1) := by decide +kernel
theorem dX3_length_2 : decode cX3_length 2 = .ok (.getfield 18, 3) := by decide +kernel
theorem dX3_length_5 : decode cX3_length 5 = .ok (.invokevirtual 21, 3) := by decide +kernel
theorem dX3_length_8 : decode cX3_length 8 = .ok (.ireturn, 1) := by decide +kernel
set_option maxRecDepth 20000 in
theorem ggX3_sequence_X0_at : GoodIn wsX3_sequence wsX0_at := goodIn_r _ [6, 7, 11, 12, 13, 14, 15, 16] (by decide +kernel) (by decide +kernel)
set_option maxRecDepth 20000 in
theorem gX3_sequence_X0_at : GoodIn wsX3_sequence (wsV RX3 21 RX0 yX0_at wsX0_at) := goodIn_app (goodIn_of _ (by decide +kernel)) ggX3_sequence_X0_at
theorem dX3_sequence_0 : decode cX3_sequence 0 = .ok (.aload_n 1, 1) := by decide +kernel
theorem dX3_sequence_1 : decode cX3_sequence 1 = .ok (.aload_n 0, 1) := by decide +kernel
theorem dX3_sequence_2 : decode cX3_sequence 2 = .ok (.getfield 18, 3) := by decide +kernel
theorem dX3_sequence_5 : decode cX3_sequence 5 = .ok (.iconst 1, 1) := by decide +kernel
theorem dX3_sequence_6 : decode cX3_sequence 6 = .ok (.iadd, 1) := by decide +kernel
theorem dX3_sequence_7 : decode cX3_sequence 7 = .ok (.invokevirtual 21, 3) := by decide +kernel
theorem dX3_sequence_10 : decode cX3_sequence 10 = .ok (.ireturn, 1) := by decide +kernel
set_option maxRecDepth 20000 in
theorem ggX3_digest_X0_word : GoodIn wsX3_digest wsX0_word := goodIn_r _ [6, 7, 8, 9, 5, 10, 11, 15, 16, 17, 18, 19, 20] (by decide +kernel) (by decide +kernel)
set_option maxRecDepth 20000 in
theorem gX3_digest_X0_word : GoodIn wsX3_digest (wsV RX3 27 RX0 yX0_word wsX0_word) := goodIn_app (goodIn_of _ (by decide +kernel)) ggX3_digest_X0_word
theorem dX3_digest_0 : decode cX3_digest 0 = .ok (.aload_n 1, 1) := by decide +kernel
theorem dX3_digest_1 : decode cX3_digest 1 = .ok (.aload_n 0, 1) := by decide +kernel
theorem dX3_digest_2 : decode cX3_digest 2 = .ok (.getfield 18, 3) := by decide +kernel
theorem dX3_digest_5 : decode cX3_digest 5 = .ok (.iconst 2, 1) := by decide +kernel
theorem dX3_digest_6 : decode cX3_digest 6 = .ok (.iadd, 1) := by decide +kernel
theorem dX3_digest_7 : decode cX3_digest 7 = .ok (.invokevirtual 27, 3) := by decide +kernel
theorem dX3_digest_10 : decode cX3_digest 10 = .ok (.ireturn, 1) := by decide +kernel
set_option maxRecDepth 20000 in
theorem ggX3_isConfirmed_X0_at : GoodIn wsX3_isConfirmed wsX0_at := goodIn_r _ [6, 7, 11, 12, 13, 14, 15, 16] (by decide +kernel) (by decide +kernel)
set_option maxRecDepth 20000 in
theorem gX3_isConfirmed_X0_at : GoodIn wsX3_isConfirmed (wsV RX3 21 RX0 yX0_at wsX0_at) := goodIn_app (goodIn_of _ (by decide +kernel)) ggX3_isConfirmed_X0_at
theorem dX3_isConfirmed_0 : decode cX3_isConfirmed 0 = .ok (.aload_n 1, 1) := by decide +kernel
theorem dX3_isConfirmed_1 : decode cX3_isConfirmed 1 = .ok (.aload_n 0, 1) := by decide +kernel
theorem dX3_isConfirmed_2 : decode cX3_isConfirmed 2 = .ok (.getfield 18, 3) := by decide +kernel
theorem dX3_isConfirmed_5 : decode cX3_isConfirmed 5 = .ok (.bipush 7, 2) := by decide +kernel
theorem dX3_isConfirmed_7 : decode cX3_isConfirmed 7 = .ok (.iadd, 1) := by decide +kernel
theorem dX3_isConfirmed_8 : decode cX3_isConfirmed 8 = .ok (.invokevirtual 21, 3) := by decide +kernel
theorem dX3_isConfirmed_11 : decode cX3_isConfirmed 11 = .ok (.ifCond .ne 7, 3) := by decide +kernel
theorem dX3_isConfirmed_14 : decode cX3_isConfirmed 14 = .ok (.iconst 1, 1) := by decide +kernel
theorem dX3_isConfirmed_15 : decode cX3_isConfirmed 15 = .ok (.goto 4, 3) := by decide +kernel
theorem dX3_isConfirmed_18 : decode cX3_isConfirmed 18 = .ok (.iconst 0, 1) := by decide +kernel
theorem dX3_isConfirmed_19 : decode cX3_isConfirmed 19 = .ok (.ireturn, 1) := by decide +kernel
set_option maxRecDepth 20000 in
theorem ggX3_isOnTrial_X3_isConfirmed : GoodIn wsX3_isOnTrial wsX3_isConfirmed := goodIn_r _ [6, 1, 7, 8, 9, 10, 11, 12, 13, 14, 15, 16, 17, 18, 19, 20, 21] (by decide +kernel) (by decide +kernel)
set_option maxRecDepth 20000 in
theorem gX3_isOnTrial_X3_isConfirmed : GoodIn wsX3_isOnTrial (wsV RX3 30 RX3 yX3_isConfirmed wsX3_isConfirmed) := goodIn_app (goodIn_of _ (by decide +kernel)) ggX3_isOnTrial_X3_isConfirmed
set_option maxRecDepth 20000 in
theorem ggX3_isOnTrial_X0_at : GoodIn wsX3_isOnTrial wsX0_at := goodIn_r _ [11, 12, 16, 17, 18, 19, 20, 21] (by decide +kernel) (by decide +kernel)
set_option maxRecDepth 20000 in
theorem gX3_isOnTrial_X0_at : GoodIn wsX3_isOnTrial (wsV RX3 21 RX0 yX0_at wsX0_at) := goodIn_app (goodIn_of _ (by decide +kernel)) ggX3_isOnTrial_X0_at
theorem dX3_isOnTrial_0 : decode cX3_isOnTrial 0 = .ok (.aload_n 0, 1) := by decide +kernel
theorem dX3_isOnTrial_1 : decode cX3_isOnTrial 1 = .ok (.aload_n 1, 1) := by decide +kernel
theorem dX3_isOnTrial_2 : decode cX3_isOnTrial 2 = .ok (.invokevirtual 30, 3) := by decide +kernel
theorem dX3_isOnTrial_5 : decode cX3_isOnTrial 5 = .ok (.ifCond .ne 21, 3) := by decide +kernel
theorem dX3_isOnTrial_8 : decode cX3_isOnTrial 8 = .ok (.aload_n 1, 1) := by decide +kernel
theorem dX3_isOnTrial_9 : decode cX3_isOnTrial 9 = .ok (.aload_n 0, 1) := by decide +kernel
theorem dX3_isOnTrial_10 : decode cX3_isOnTrial 10 = .ok (.getfield 18, 3) := by decide +kernel
theorem dX3_isOnTrial_13 : decode cX3_isOnTrial 13 = .ok (.bipush 6, 2) := by decide +kernel
theorem dX3_isOnTrial_15 : decode cX3_isOnTrial 15 = .ok (.iadd, 1) := by decide +kernel
theorem dX3_isOnTrial_16 : decode cX3_isOnTrial 16 = .ok (.invokevirtual 21, 3) := by decide +kernel
theorem dX3_isOnTrial_19 : decode cX3_isOnTrial 19 = .ok (.ifCond .eq 7, 3) := by decide +kernel
theorem dX3_isOnTrial_22 : decode cX3_isOnTrial 22 = .ok (.iconst 1, 1) := by decide +kernel
theorem dX3_isOnTrial_23 : decode cX3_isOnTrial 23 = .ok (.goto 4, 3) := by decide +kernel
theorem dX3_isOnTrial_26 : decode cX3_isOnTrial 26 = .ok (.iconst 0, 1) := by decide +kernel
theorem dX3_isOnTrial_27 : decode cX3_isOnTrial 27 = .ok (.ireturn, 1) := by decide +kernel
set_option maxRecDepth 20000 in
theorem ggX3_isWhole_X0_at : GoodIn wsX3_isWhole wsX0_at := goodIn_r _ [6, 7, 11, 12, 13, 14, 15, 16] (by decide +kernel) (by decide +kernel)
set_option maxRecDepth 20000 in
theorem gX3_isWhole_X0_at : GoodIn wsX3_isWhole (wsV RX3 21 RX0 yX0_at wsX0_at) := goodIn_app (goodIn_of _ (by decide +kernel)) ggX3_isWhole_X0_at
theorem dX3_isWhole_0 : decode cX3_isWhole 0 = .ok (.aload_n 1, 1) := by decide +kernel
theorem dX3_isWhole_1 : decode cX3_isWhole 1 = .ok (.aload_n 0, 1) := by decide +kernel
theorem dX3_isWhole_2 : decode cX3_isWhole 2 = .ok (.getfield 18, 3) := by decide +kernel
theorem dX3_isWhole_5 : decode cX3_isWhole 5 = .ok (.bipush 8, 2) := by decide +kernel
theorem dX3_isWhole_7 : decode cX3_isWhole 7 = .ok (.iadd, 1) := by decide +kernel
theorem dX3_isWhole_8 : decode cX3_isWhole 8 = .ok (.invokevirtual 21, 3) := by decide +kernel
theorem dX3_isWhole_11 : decode cX3_isWhole 11 = .ok (.ifCond .ne 7, 3) := by decide +kernel
theorem dX3_isWhole_14 : decode cX3_isWhole 14 = .ok (.iconst 1, 1) := by decide +kernel
theorem dX3_isWhole_15 : decode cX3_isWhole 15 = .ok (.goto 4, 3) := by decide +kernel
theorem dX3_isWhole_18 : decode cX3_isWhole 18 = .ok (.iconst 0, 1) := by decide +kernel
theorem dX3_isWhole_19 : decode cX3_isWhole 19 = .ok (.ireturn, 1) := by decide +kernel
set_option maxRecDepth 20000 in
theorem ggX3_isGood_X3_isWhole : GoodIn wsX3_isGood wsX3_isWhole := goodIn_r _ [6, 7, 8, 9, 10, 11, 12, 13, 41, 42, 43, 44, 45, 46, 47, 48, 49] (by decide +kernel) (by decide +kernel)
set_option maxRecDepth 20000 in
theorem gX3_isGood_X3_isWhole : GoodIn wsX3_isGood (wsV RX3 34 RX3 yX3_isWhole wsX3_isWhole) := goodIn_app (goodIn_of _ (by decide +kernel)) ggX3_isGood_X3_isWhole
set_option maxRecDepth 20000 in
theorem ggX3_isGood_X3_length : GoodIn wsX3_isGood wsX3_length := goodIn_r _ [17, 7, 8, 9, 10, 11, 12, 13, 41, 42, 43, 44, 45, 46, 47, 48, 49] (by decide +kernel) (by decide +kernel)
set_option maxRecDepth 20000 in
theorem gX3_isGood_X3_length : GoodIn wsX3_isGood (wsV RX3 37 RX3 yX3_length wsX3_length) := goodIn_app (goodIn_of _ (by decide +kernel)) ggX3_isGood_X3_length
set_option maxRecDepth 20000 in
theorem ggX3_isGood_X5_isLength : GoodIn wsX3_isGood wsX5_isLength := goodIn_r _ [20] (by decide +kernel) (by decide +kernel)
set_option maxRecDepth 20000 in
theorem gX3_isGood_X5_isLength_n41 : GoodIn wsX3_isGood (wsX5_isLength) := ggX3_isGood_X5_isLength
set_option maxRecDepth 20000 in
theorem ggX3_isGood_X3_sequence : GoodIn wsX3_isGood wsX3_sequence := goodIn_r _ [24, 7, 8, 9, 10, 11, 12, 13, 41, 42, 43, 44, 45, 46, 47, 48, 49] (by decide +kernel) (by decide +kernel)
set_option maxRecDepth 20000 in
theorem gX3_isGood_X3_sequence : GoodIn wsX3_isGood (wsV RX3 45 RX3 yX3_sequence wsX3_sequence) := goodIn_app (goodIn_of _ (by decide +kernel)) ggX3_isGood_X3_sequence
set_option maxRecDepth 20000 in
theorem ggX3_isGood_X0_digestOf : GoodIn wsX3_isGood wsX0_digestOf := goodIn_r _ [28, 29, 9, 10, 11, 12, 13, 30, 19, 31, 32, 44, 45, 46, 47, 48, 49] (by decide +kernel) (by decide +kernel)
set_option maxRecDepth 20000 in
theorem gX3_isGood_X0_digestOf : GoodIn wsX3_isGood (wsV RX3 48 RX0 yX0_digestOf wsX0_digestOf) := goodIn_app (goodIn_of _ (by decide +kernel)) ggX3_isGood_X0_digestOf
set_option maxRecDepth 20000 in
theorem ggX3_isGood_X3_digest : GoodIn wsX3_isGood wsX3_digest := goodIn_r _ [36, 7, 37, 38, 39, 11, 40, 29, 9, 10, 12, 13, 41, 42, 43, 44, 45, 46, 47, 48, 49] (by decide +kernel) (by decide +kernel)
set_option maxRecDepth 20000 in
theorem gX3_isGood_X3_digest : GoodIn wsX3_isGood (wsV RX3 52 RX3 yX3_digest wsX3_digest) := goodIn_app (goodIn_of _ (by decide +kernel)) ggX3_isGood_X3_digest
theorem dX3_isGood_0 : decode cX3_isGood 0 = .ok (.aload_n 0, 1) := by decide +kernel
theorem dX3_isGood_1 : decode cX3_isGood 1 = .ok (.aload_n 1, 1) := by decide +kernel
theorem dX3_isGood_2 : decode cX3_isGood 2 = .ok (.invokevirtual 34, 3) := by decide +kernel
theorem dX3_isGood_5 : decode cX3_isGood 5 = .ok (.ifCond .eq 48, 3) := by decide +kernel
theorem dX3_isGood_8 : decode cX3_isGood 8 = .ok (.aload_n 0, 1) := by decide +kernel
theorem dX3_isGood_9 : decode cX3_isGood 9 = .ok (.aload_n 1, 1) := by decide +kernel
theorem dX3_isGood_10 : decode cX3_isGood 10 = .ok (.invokevirtual 37, 3) := by decide +kernel
theorem dX3_isGood_13 : decode cX3_isGood 13 = .ok (.invokestatic 41, 3) := by decide +kernel
theorem dX3_isGood_16 : decode cX3_isGood 16 = .ok (.ifCond .eq 37, 3) := by decide +kernel
theorem dX3_isGood_19 : decode cX3_isGood 19 = .ok (.aload_n 0, 1) := by decide +kernel
theorem dX3_isGood_20 : decode cX3_isGood 20 = .ok (.aload_n 1, 1) := by decide +kernel
theorem dX3_isGood_21 : decode cX3_isGood 21 = .ok (.invokevirtual 45, 3) := by decide +kernel
theorem dX3_isGood_24 : decode cX3_isGood 24 = .ok (.iload_n 2, 1) := by decide +kernel
theorem dX3_isGood_25 : decode cX3_isGood 25 = .ok (.if_icmp .lt 28, 3) := by decide +kernel
theorem dX3_isGood_28 : decode cX3_isGood 28 = .ok (.aload_n 1, 1) := by decide +kernel
theorem dX3_isGood_29 : decode cX3_isGood 29 = .ok (.aload_n 0, 1) := by decide +kernel
theorem dX3_isGood_30 : decode cX3_isGood 30 = .ok (.getfield 15, 3) := by decide +kernel
theorem dX3_isGood_33 : decode cX3_isGood 33 = .ok (.aload_n 0, 1) := by decide +kernel
theorem dX3_isGood_34 : decode cX3_isGood 34 = .ok (.aload_n 1, 1) := by decide +kernel
theorem dX3_isGood_35 : decode cX3_isGood 35 = .ok (.invokevirtual 37, 3) := by decide +kernel
theorem dX3_isGood_38 : decode cX3_isGood 38 = .ok (.invokevirtual 48, 3) := by decide +kernel
theorem dX3_isGood_41 : decode cX3_isGood 41 = .ok (.aload_n 0, 1) := by decide +kernel
theorem dX3_isGood_42 : decode cX3_isGood 42 = .ok (.aload_n 1, 1) := by decide +kernel
theorem dX3_isGood_43 : decode cX3_isGood 43 = .ok (.invokevirtual 52, 3) := by decide +kernel
theorem dX3_isGood_46 : decode cX3_isGood 46 = .ok (.if_icmp .ne 7, 3) := by decide +kernel
theorem dX3_isGood_49 : decode cX3_isGood 49 = .ok (.iconst 1, 1) := by decide +kernel
theorem dX3_isGood_50 : decode cX3_isGood 50 = .ok (.goto 4, 3) := by decide +kernel
theorem dX3_isGood_53 : decode cX3_isGood 53 = .ok (.iconst 0, 1) := by decide +kernel
theorem dX3_isGood_54 : decode cX3_isGood 54 = .ok (.ireturn, 1) := by decide +kernel
set_option maxRecDepth 20000 in
theorem ggX3_eraseHeader_X0_erase : GoodIn wsX3_eraseHeader wsX0_erase := goodIn_r _ [6, 7, 8, 9, 10, 11, 12, 5, 13, 14, 15, 16, 20, 21, 22, 23, 24, 25] (by decide +kernel) (by decide +kernel)
set_option maxRecDepth 20000 in
theorem gX3_eraseHeader_X0_erase : GoodIn wsX3_eraseHeader (wsV RX3 55 RX0 yX0_erase wsX0_erase) := goodIn_app (goodIn_of _ (by decide +kernel)) ggX3_eraseHeader_X0_erase
theorem dX3_eraseHeader_0 : decode cX3_eraseHeader 0 = .ok (.aload_n 1, 1) := by decide +kernel
theorem dX3_eraseHeader_1 : decode cX3_eraseHeader 1 = .ok (.aload_n 0, 1) := by decide +kernel
theorem dX3_eraseHeader_2 : decode cX3_eraseHeader 2 = .ok (.getfield 9, 3) := by decide +kernel
theorem dX3_eraseHeader_5 : decode cX3_eraseHeader 5 = .ok (.bipush 6, 2) := by decide +kernel
theorem dX3_eraseHeader_7 : decode cX3_eraseHeader 7 = .ok (.iadd, 1) := by decide +kernel
theorem dX3_eraseHeader_8 : decode cX3_eraseHeader 8 = .ok (.invokevirtual 55, 3) := by decide +kernel
theorem dX3_eraseHeader_11 : decode cX3_eraseHeader 11 = .ok (.return_, 1) := by decide +kernel
set_option maxRecDepth 20000 in
theorem ggX3_eraseImage_X0_erase : GoodIn wsX3_eraseImage wsX0_erase := goodIn_r _ [6, 7, 8, 9, 10, 11, 12, 5, 13, 14, 15, 16, 20, 21, 22, 23, 24, 25] (by decide +kernel) (by decide +kernel)
set_option maxRecDepth 20000 in
theorem gX3_eraseImage_X0_erase : GoodIn wsX3_eraseImage (wsV RX3 55 RX0 yX0_erase wsX0_erase) := goodIn_app (goodIn_of _ (by decide +kernel)) ggX3_eraseImage_X0_erase
theorem dX3_eraseImage_0 : decode cX3_eraseImage 0 = .ok (.iconst 0, 1) := by decide +kernel
theorem dX3_eraseImage_1 : decode cX3_eraseImage 1 = .ok (.istore_n 2, 1) := by decide +kernel
theorem dX3_eraseImage_2 : decode cX3_eraseImage 2 = .ok (.iload_n 2, 1) := by decide +kernel
theorem dX3_eraseImage_3 : decode cX3_eraseImage 3 = .ok (.bipush 6, 2) := by decide +kernel
theorem dX3_eraseImage_5 : decode cX3_eraseImage 5 = .ok (.if_icmp .ge 19, 3) := by decide +kernel
theorem dX3_eraseImage_8 : decode cX3_eraseImage 8 = .ok (.aload_n 1, 1) := by decide +kernel
theorem dX3_eraseImage_9 : decode cX3_eraseImage 9 = .ok (.aload_n 0, 1) := by decide +kernel
theorem dX3_eraseImage_10 : decode cX3_eraseImage 10 = .ok (.getfield 9, 3) := by decide +kernel
theorem dX3_eraseImage_13 : decode cX3_eraseImage 13 = .ok (.iload_n 2, 1) := by decide +kernel
theorem dX3_eraseImage_14 : decode cX3_eraseImage 14 = .ok (.iadd, 1) := by decide +kernel
theorem dX3_eraseImage_15 : decode cX3_eraseImage 15 = .ok (.invokevirtual 55, 3) := by decide +kernel
theorem dX3_eraseImage_18 : decode cX3_eraseImage 18 = .ok (.iinc 2 1, 3) := by decide +kernel
theorem dX3_eraseImage_21 : decode cX3_eraseImage 21 = .ok (.goto (-19), 3) := by decide +kernel
theorem dX3_eraseImage_24 : decode cX3_eraseImage 24 = .ok (.return_, 1) := by decide +kernel
set_option maxRecDepth 20000 in
theorem ggX3_programImage_X0_programRow : GoodIn wsX3_programImage wsX0_programRow := goodIn_r _ [6, 7, 8, 9, 5, 10, 11, 12, 13, 14, 15, 16, 17, 18, 19, 20, 24, 25, 26, 27, 28, 29] (by decide +kernel) (by decide +kernel)
set_option maxRecDepth 20000 in
theorem gX3_programImage_X0_programRow : GoodIn wsX3_programImage (wsV RX3 59 RX0 yX0_programRow wsX0_programRow) := goodIn_app (goodIn_of _ (by decide +kernel)) ggX3_programImage_X0_programRow
theorem dX3_programImage_0 : decode cX3_programImage 0 = .ok (.aload_n 1, 1) := by decide +kernel
theorem dX3_programImage_1 : decode cX3_programImage 1 = .ok (.aload_n 0, 1) := by decide +kernel
theorem dX3_programImage_2 : decode cX3_programImage 2 = .ok (.getfield 15, 3) := by decide +kernel
theorem dX3_programImage_5 : decode cX3_programImage 5 = .ok (.aload_n 2, 1) := by decide +kernel
theorem dX3_programImage_6 : decode cX3_programImage 6 = .ok (.iload_n 3, 1) := by decide +kernel
theorem dX3_programImage_7 : decode cX3_programImage 7 = .ok (.invokevirtual 59, 3) := by decide +kernel
theorem dX3_programImage_10 : decode cX3_programImage 10 = .ok (.return_, 1) := by decide +kernel
set_option maxRecDepth 20000 in
theorem ggX3_programName_X0_program : GoodIn wsX3_programName wsX0_program := goodIn_r _ [6, 7, 8, 9, 10, 11, 12, 5, 13, 14, 15, 16, 28, 29, 30, 31, 32, 33] (by decide +kernel) (by decide +kernel)
set_option maxRecDepth 20000 in
theorem gX3_programName_X0_program : GoodIn wsX3_programName (wsV RX3 63 RX0 yX0_program wsX0_program) := goodIn_app (goodIn_of _ (by decide +kernel)) ggX3_programName_X0_program
set_option maxRecDepth 20000 in
theorem ggX3_programName_X0_programWord : GoodIn wsX3_programName wsX0_programWord := goodIn_r _ [20, 21, 22, 23, 24, 3, 4, 5, 6, 7, 8, 9, 10, 11, 12, 13, 14, 15, 16, 28, 29, 30, 31, 32, 33] (by decide +kernel) (by decide +kernel)
set_option maxRecDepth 20000 in
theorem gX3_programName_X0_programWord : GoodIn wsX3_programName (wsV RX3 67 RX0 yX0_programWord wsX0_programWord) := goodIn_app (goodIn_of _ (by decide +kernel)) ggX3_programName_X0_programWord
theorem dX3_programName_0 : decode cX3_programName 0 = .ok (.aload_n 1, 1) := by decide +kernel
theorem dX3_programName_1 : decode cX3_programName 1 = .ok (.aload_n 0, 1) := by decide +kernel
theorem dX3_programName_2 : decode cX3_programName 2 = .ok (.getfield 18, 3) := by decide +kernel
theorem dX3_programName_5 : decode cX3_programName 5 = .ok (.iload_n 2, 1) := by decide +kernel
theorem dX3_programName_6 : decode cX3_programName 6 = .ok (.invokevirtual 63, 3) := by decide +kernel
theorem dX3_programName_9 : decode cX3_programName 9 = .ok (.aload_n 1, 1) := by decide +kernel
theorem dX3_programName_10 : decode cX3_programName 10 = .ok (.aload_n 0, 1) := by decide +kernel
theorem dX3_programName_11 : decode cX3_programName 11 = .ok (.getfield 18, 3) := by decide +kernel
theorem dX3_programName_14 : decode cX3_programName 14 = .ok (.iconst 1, 1) := by decide +kernel
theorem dX3_programName_15 : decode cX3_programName 15 = .ok (.iadd, 1) := by decide +kernel
theorem dX3_programName_16 : decode cX3_programName 16 = .ok (.iload_n 3, 1) := by decide +kernel
theorem dX3_programName_17 : decode cX3_programName 17 = .ok (.invokevirtual 63, 3) := by decide +kernel
theorem dX3_programName_20 : decode cX3_programName 20 = .ok (.aload_n 1, 1) := by decide +kernel
theorem dX3_programName_21 : decode cX3_programName 21 = .ok (.aload_n 0, 1) := by decide +kernel
theorem dX3_programName_22 : decode cX3_programName 22 = .ok (.getfield 18, 3) := by decide +kernel
theorem dX3_programName_25 : decode cX3_programName 25 = .ok (.iconst 2, 1) := by decide +kernel
theorem dX3_programName_26 : decode cX3_programName 26 = .ok (.iadd, 1) := by decide +kernel
theorem dX3_programName_27 : decode cX3_programName 27 = .ok (.iload 4, 2) := by decide +kernel
theorem dX3_programName_29 : decode cX3_programName 29 = .ok (.invokevirtual 67, 3) := by decide +kernel
theorem dX3_programName_32 : decode cX3_programName 32 = .ok (.return_, 1) := by decide +kernel
set_option maxRecDepth 20000 in
theorem ggX3_programTrials_X0_program : GoodIn wsX3_programTrials wsX0_program := goodIn_r _ [6, 7, 8, 9, 10, 11, 12, 5, 13, 14, 15, 16, 20, 21, 22, 23, 24, 25] (by decide +kernel) (by decide +kernel)
set_option maxRecDepth 20000 in
theorem gX3_programTrials_X0_program : GoodIn wsX3_programTrials (wsV RX3 63 RX0 yX0_program wsX0_program) := goodIn_app (goodIn_of _ (by decide +kernel)) ggX3_programTrials_X0_program
theorem dX3_programTrials_0 : decode cX3_programTrials 0 = .ok (.aload_n 1, 1) := by decide +kernel
theorem dX3_programTrials_1 : decode cX3_programTrials 1 = .ok (.aload_n 0, 1) := by decide +kernel
theorem dX3_programTrials_2 : decode cX3_programTrials 2 = .ok (.getfield 18, 3) := by decide +kernel
theorem dX3_programTrials_5 : decode cX3_programTrials 5 = .ok (.bipush 6, 2) := by decide +kernel
theorem dX3_programTrials_7 : decode cX3_programTrials 7 = .ok (.iadd, 1) := by decide +kernel
theorem dX3_programTrials_8 : decode cX3_programTrials 8 = .ok (.bipush 15, 2) := by decide +kernel
theorem dX3_programTrials_10 : decode cX3_programTrials 10 = .ok (.invokevirtual 63, 3) := by decide +kernel
theorem dX3_programTrials_13 : decode cX3_programTrials 13 = .ok (.return_, 1) := by decide +kernel
set_option maxRecDepth 20000 in
theorem ggX3_useTrial_X0_programLowestBit : GoodIn wsX3_useTrial wsX0_programLowestBit := goodIn_r _ [6, 7, 8, 9, 5, 10, 11, 12, 13, 14, 15, 16, 17, 18, 19, 20, 21, 22, 23, 24, 28, 29, 30, 31, 32, 33] (by decide +kernel) (by decide +kernel)
set_option maxRecDepth 20000 in
theorem gX3_useTrial_X0_programLowestBit : GoodIn wsX3_useTrial (wsV RX3 70 RX0 yX0_programLowestBit wsX0_programLowestBit) := goodIn_app (goodIn_of _ (by decide +kernel)) ggX3_useTrial_X0_programLowestBit
theorem dX3_useTrial_0 : decode cX3_useTrial 0 = .ok (.aload_n 1, 1) := by decide +kernel
theorem dX3_useTrial_1 : decode cX3_useTrial 1 = .ok (.aload_n 0, 1) := by decide +kernel
theorem dX3_useTrial_2 : decode cX3_useTrial 2 = .ok (.getfield 18, 3) := by decide +kernel
theorem dX3_useTrial_5 : decode cX3_useTrial 5 = .ok (.bipush 6, 2) := by decide +kernel
theorem dX3_useTrial_7 : decode cX3_useTrial 7 = .ok (.iadd, 1) := by decide +kernel
theorem dX3_useTrial_8 : decode cX3_useTrial 8 = .ok (.invokevirtual 70, 3) := by decide +kernel
theorem dX3_useTrial_11 : decode cX3_useTrial 11 = .ok (.return_, 1) := by decide +kernel
set_option maxRecDepth 20000 in
theorem ggX3_programConfirmed_X0_program : GoodIn wsX3_programConfirmed wsX0_program := goodIn_r _ [6, 7, 8, 9, 10, 11, 12, 5, 13, 14, 15, 16, 20, 21, 22, 23, 24, 25] (by decide +kernel) (by decide +kernel)
set_option maxRecDepth 20000 in
theorem gX3_programConfirmed_X0_program : GoodIn wsX3_programConfirmed (wsV RX3 63 RX0 yX0_program wsX0_program) := goodIn_app (goodIn_of _ (by decide +kernel)) ggX3_programConfirmed_X0_program
theorem dX3_programConfirmed_0 : decode cX3_programConfirmed 0 = .ok (.aload_n 1, 1) := by decide +kernel
theorem dX3_programConfirmed_1 : decode cX3_programConfirmed 1 = .ok (.aload_n 0, 1) := by decide +kernel
theorem dX3_programConfirmed_2 : decode cX3_programConfirmed 2 = .ok (.getfield 18, 3) := by decide +kernel
theorem dX3_programConfirmed_5 : decode cX3_programConfirmed 5 = .ok (.bipush 7, 2) := by decide +kernel
theorem dX3_programConfirmed_7 : decode cX3_programConfirmed 7 = .ok (.iadd, 1) := by decide +kernel
theorem dX3_programConfirmed_8 : decode cX3_programConfirmed 8 = .ok (.iconst 0, 1) := by decide +kernel
theorem dX3_programConfirmed_9 : decode cX3_programConfirmed 9 = .ok (.invokevirtual 63, 3) := by decide +kernel
theorem dX3_programConfirmed_12 : decode cX3_programConfirmed 12 = .ok (.return_, 1) := by decide +kernel
set_option maxRecDepth 20000 in
theorem ggX3_programWhole_X0_program : GoodIn wsX3_programWhole wsX0_program := goodIn_r _ [6, 7, 8, 9, 10, 11, 12, 5, 13, 14, 15, 16, 20, 21, 22, 23, 24, 25] (by decide +kernel) (by decide +kernel)
set_option maxRecDepth 20000 in
theorem gX3_programWhole_X0_program : GoodIn wsX3_programWhole (wsV RX3 63 RX0 yX0_program wsX0_program) := goodIn_app (goodIn_of _ (by decide +kernel)) ggX3_programWhole_X0_program
theorem dX3_programWhole_0 : decode cX3_programWhole 0 = .ok (.aload_n 1, 1) := by decide +kernel
theorem dX3_programWhole_1 : decode cX3_programWhole 1 = .ok (.aload_n 0, 1) := by decide +kernel
theorem dX3_programWhole_2 : decode cX3_programWhole 2 = .ok (.getfield 18, 3) := by decide +kernel
theorem dX3_programWhole_5 : decode cX3_programWhole 5 = .ok (.bipush 8, 2) := by decide +kernel
theorem dX3_programWhole_7 : decode cX3_programWhole 7 = .ok (.iadd, 1) := by decide +kernel
theorem dX3_programWhole_8 : decode cX3_programWhole 8 = .ok (.iconst 0, 1) := by decide +kernel
theorem dX3_programWhole_9 : decode cX3_programWhole 9 = .ok (.invokevirtual 63, 3) := by decide +kernel
theorem dX3_programWhole_12 : decode cX3_programWhole 12 = .ok (.return_, 1) := by decide +kernel
theorem dX4_init_0 : decode cX4_init 0 = .ok (.aload_n 0, 1) := by decide +kernel
theorem dX4_init_1 : decode cX4_init 1 = .ok (.invokespecial 3, 3) := by decide +kernel
theorem dX4_init_4 : decode cX4_init 4 = .ok (.aload_n 0, 1) := by decide +kernel
theorem dX4_init_5 : decode cX4_init 5 = .ok (.sipush 192, 3) := by decide +kernel
theorem dX4_init_8 : decode cX4_init 8 = .ok (.newarray .int, 2) := by decide +kernel
theorem dX4_init_10 : decode cX4_init 10 = .ok (.putfield 9, 3) := by decide +kernel
theorem dX4_init_13 : decode cX4_init 13 = .ok (.aload_n 0, 1) := by decide +kernel
theorem dX4_init_14 : decode cX4_init 14 = .ok (.iconst 0, 1) := by decide +kernel
theorem dX4_init_15 : decode cX4_init 15 = .ok (.putfield 15, 3) := by decide +kernel
theorem dX4_init_18 : decode cX4_init 18 = .ok (.return_, 1) := by decide +kernel
theorem dX4_add_0 : decode cX4_add 0 = .ok (.aload_n 0, 1) := by decide +kernel
theorem dX4_add_1 : decode cX4_add 1 = .ok (.getfield 15, 3) := by decide +kernel
theorem dX4_add_4 : decode cX4_add 4 = .ok (.iload_n 3, 1) := by decide +kernel
theorem dX4_add_5 : decode cX4_add 5 = .ok (.iadd, 1) := by decide +kernel
theorem dX4_add_6 : decode cX4_add 6 = .ok (.sipush 192, 3) := by decide +kernel
theorem dX4_add_9 : decode cX4_add 9 = .ok (.if_icmp .le 5, 3) := by decide +kernel
theorem dX4_add_12 : decode cX4_add 12 = .ok (.iconst 0, 1) := by decide +kernel
theorem dX4_add_13 : decode cX4_add 13 = .ok (.ireturn, 1) := by decide +kernel
theorem dX4_add_14 : decode cX4_add 14 = .ok (.iload_n 3, 1) := by decide +kernel
theorem dX4_add_15 : decode cX4_add 15 = .ok (.iconst 1, 1) := by decide +kernel
theorem dX4_add_16 : decode cX4_add 16 = .ok (.isub, 1) := by decide +kernel
theorem dX4_add_17 : decode cX4_add 17 = .ok (.istore 4, 2) := by decide +kernel
theorem dX4_add_19 : decode cX4_add 19 = .ok (.iload 4, 2) := by decide +kernel
theorem dX4_add_21 : decode cX4_add 21 = .ok (.ifCond .lt 40, 3) := by decide +kernel
theorem dX4_add_24 : decode cX4_add 24 = .ok (.aload_n 0, 1) := by decide +kernel
theorem dX4_add_25 : decode cX4_add 25 = .ok (.getfield 9, 3) := by decide +kernel
theorem dX4_add_28 : decode cX4_add 28 = .ok (.aload_n 0, 1) := by decide +kernel
theorem dX4_add_29 : decode cX4_add 29 = .ok (.getfield 15, 3) := by decide +kernel
theorem dX4_add_32 : decode cX4_add 32 = .ok (.lload_n 1, 1) := by decide +kernel
theorem dX4_add_33 : decode cX4_add 33 = .ok (.bipush 8, 2) := by decide +kernel
theorem dX4_add_35 : decode cX4_add 35 = .ok (.iload 4, 2) := by decide +kernel
theorem dX4_add_37 : decode cX4_add 37 = .ok (.imul, 1) := by decide +kernel
theorem dX4_add_38 : decode cX4_add 38 = .ok (.lushr, 1) := by decide +kernel
theorem dX4_add_39 : decode cX4_add 39 = .ok (.l2i, 1) := by decide +kernel
theorem dX4_add_40 : decode cX4_add 40 = .ok (.sipush 255, 3) := by decide +kernel
theorem dX4_add_43 : decode cX4_add 43 = .ok (.iand, 1) := by decide +kernel
theorem dX4_add_44 : decode cX4_add 44 = .ok (.iastore, 1) := by decide +kernel
theorem dX4_add_45 : decode cX4_add 45 = .ok (.aload_n 0, 1) := by decide +kernel
theorem dX4_add_46 : decode cX4_add 46 = .ok (.dup, 1) := by decide +kernel
theorem dX4_add_47 : decode cX4_add 47 = .ok (.getfield 15, 3) := by decide +kernel
theorem dX4_add_50 : decode cX4_add 50 = .ok (.iconst 1, 1) := by decide +kernel
theorem dX4_add_51 : decode cX4_add 51 = .ok (.iadd, 1) := by decide +kernel
theorem dX4_add_52 : decode cX4_add 52 = .ok (.putfield 15, 3) := by decide +kernel
theorem dX4_add_55 : decode cX4_add 55 = .ok (.iinc 4 (-1), 3) := by decide +kernel
theorem dX4_add_58 : decode cX4_add 58 = .ok (.goto (-39), 3) := by decide +kernel
theorem dX4_add_61 : decode cX4_add 61 = .ok (.iconst 1, 1) := by decide +kernel
theorem dX4_add_62 : decode cX4_add 62 = .ok (.ireturn, 1) := by decide +kernel
set_option maxRecDepth 20000 in
theorem ggX5_init_X0_init : GoodIn wsX5_init wsX0_init := goodIn_r _ [30, 31, 2, 3, 32, 33, 34, 35, 36, 37, 38, 67, 68, 69, 70, 71, 72] (by decide +kernel) (by decide +kernel)
set_option maxRecDepth 20000 in
theorem gX5_init_X0_init : GoodIn wsX5_init (wsX0_init) := ggX5_init_X0_init
set_option maxRecDepth 20000 in
theorem ggX5_init_X4_init : GoodIn wsX5_init wsX4_init := goodIn_r _ [40, 41, 2, 3, 32, 42, 43, 82, 83] (by decide +kernel) (by decide +kernel)
set_option maxRecDepth 20000 in
theorem gX5_init_X4_init_n18 : GoodIn wsX5_init (wsX4_init) := ggX5_init_X4_init
set_option maxRecDepth 20000 in
theorem ggX5_init_X3_init : GoodIn wsX5_init wsX3_init := goodIn_r _ [46, 47, 2, 3, 48, 49, 50, 84, 85, 86] (by decide +kernel) (by decide +kernel)
set_option maxRecDepth 20000 in
theorem gX5_init_X3_init : GoodIn wsX5_init (wsX3_init) := ggX5_init_X3_init
set_option maxRecDepth 20000 in
theorem ggX5_init_X1_init : GoodIn wsX5_init wsX1_init := goodIn_r _ [52, 53, 2, 3, 32, 54, 87] (by decide +kernel) (by decide +kernel)
set_option maxRecDepth 20000 in
theorem gX5_init_X1_init_n37 : GoodIn wsX5_init (wsX1_init) := ggX5_init_X1_init
set_option maxRecDepth 20000 in
theorem ggX5_init_X2_init : GoodIn wsX5_init wsX2_init := goodIn_r _ [56, 57, 2, 3, 32, 58, 59, 88, 89] (by decide +kernel) (by decide +kernel)
set_option maxRecDepth 20000 in
theorem gX5_init_X2_init_n44 : GoodIn wsX5_init (wsX2_init) := ggX5_init_X2_init
set_option maxRecDepth 20000 in
theorem ggX5_init_X5_rowOfWords : GoodIn wsX5_init wsX5_rowOfWords := goodIn_r _ [63, 32, 64, 65, 62, 66] (by decide +kernel) (by decide +kernel)
set_option maxRecDepth 20000 in
theorem gX5_init_X5_rowOfWords : GoodIn wsX5_init (va_wsS RX5 53 yX5_rowOfWords wsX5_rowOfWords) := goodIn_app (goodIn_of _ (by decide +kernel)) ggX5_init_X5_rowOfWords
theorem dX5_init_0 : decode cX5_init 0 = .ok (.aload_n 0, 1) := by decide +kernel
theorem dX5_init_1 : decode cX5_init 1 = .ok (.invokespecial 3, 3) := by decide +kernel
theorem dX5_init_4 : decode cX5_init 4 = .ok (.aload_n 0, 1) := by decide +kernel
theorem dX5_init_5 : decode cX5_init 5 = .ok (.new 9, 3) := by decide +kernel
theorem dX5_init_8 : decode cX5_init 8 = .ok (.dup, 1) := by decide +kernel
theorem dX5_init_9 : decode cX5_init 9 = .ok (.invokespecial 11, 3) := by decide +kernel
theorem dX5_init_12 : decode cX5_init 12 = .ok (.putfield 12, 3) := by decide +kernel
theorem dX5_init_15 : decode cX5_init 15 = .ok (.aload_n 0, 1) := by decide +kernel
theorem dX5_init_16 : decode cX5_init 16 = .ok (.new 16, 3) := by decide +kernel
theorem dX5_init_19 : decode cX5_init 19 = .ok (.dup, 1) := by decide +kernel
theorem dX5_init_20 : decode cX5_init 20 = .ok (.invokespecial 18, 3) := by decide +kernel
theorem dX5_init_23 : decode cX5_init 23 = .ok (.putfield 19, 3) := by decide +kernel
theorem dX5_init_26 : decode cX5_init 26 = .ok (.aload_n 0, 1) := by decide +kernel
theorem dX5_init_27 : decode cX5_init 27 = .ok (.new 23, 3) := by decide +kernel
theorem dX5_init_30 : decode cX5_init 30 = .ok (.dup, 1) := by decide +kernel
theorem dX5_init_31 : decode cX5_init 31 = .ok (.iconst 0, 1) := by decide +kernel
theorem dX5_init_32 : decode cX5_init 32 = .ok (.invokespecial 25, 3) := by decide +kernel
theorem dX5_init_35 : decode cX5_init 35 = .ok (.putfield 28, 3) := by decide +kernel
theorem dX5_init_38 : decode cX5_init 38 = .ok (.aload_n 0, 1) := by decide +kernel
theorem dX5_init_39 : decode cX5_init 39 = .ok (.new 23, 3) := by decide +kernel
theorem dX5_init_42 : decode cX5_init 42 = .ok (.dup, 1) := by decide +kernel
theorem dX5_init_43 : decode cX5_init 43 = .ok (.bipush 7, 2) := by decide +kernel
theorem dX5_init_45 : decode cX5_init 45 = .ok (.invokespecial 25, 3) := by decide +kernel
theorem dX5_init_48 : decode cX5_init 48 = .ok (.putfield 32, 3) := by decide +kernel
theorem dX5_init_51 : decode cX5_init 51 = .ok (.aload_n 0, 1) := by decide +kernel
theorem dX5_init_52 : decode cX5_init 52 = .ok (.new 35, 3) := by decide +kernel
theorem dX5_init_55 : decode cX5_init 55 = .ok (.dup, 1) := by decide +kernel
theorem dX5_init_56 : decode cX5_init 56 = .ok (.invokespecial 37, 3) := by decide +kernel
theorem dX5_init_59 : decode cX5_init 59 = .ok (.putfield 38, 3) := by decide +kernel
theorem dX5_init_62 : decode cX5_init 62 = .ok (.aload_n 0, 1) := by decide +kernel
theorem dX5_init_63 : decode cX5_init 63 = .ok (.new 42, 3) := by decide +kernel
theorem dX5_init_66 : decode cX5_init 66 = .ok (.dup, 1) := by decide +kernel
theorem dX5_init_67 : decode cX5_init 67 = .ok (.invokespecial 44, 3) := by decide +kernel
theorem dX5_init_70 : decode cX5_init 70 = .ok (.putfield 45, 3) := by decide +kernel
theorem dX5_init_73 : decode cX5_init 73 = .ok (.aload_n 0, 1) := by decide +kernel
theorem dX5_init_74 : decode cX5_init 74 = .ok (.bipush (-7), 2) := by decide +kernel
theorem dX5_init_76 : decode cX5_init 76 = .ok (.putfield 49, 3) := by decide +kernel
theorem dX5_init_79 : decode cX5_init 79 = .ok (.aload_n 0, 1) := by decide +kernel
theorem dX5_init_80 : decode cX5_init 80 = .ok (.iload_n 1, 1) := by decide +kernel
theorem dX5_init_81 : decode cX5_init 81 = .ok (.iload_n 2, 1) := by decide +kernel
theorem dX5_init_82 : decode cX5_init 82 = .ok (.invokestatic 53, 3) := by decide +kernel
theorem dX5_init_85 : decode cX5_init 85 = .ok (.putfield 57, 3) := by decide +kernel
theorem dX5_init_88 : decode cX5_init 88 = .ok (.aload_n 0, 1) := by decide +kernel
theorem dX5_init_89 : decode cX5_init 89 = .ok (.iload_n 3, 1) := by decide +kernel
theorem dX5_init_90 : decode cX5_init 90 = .ok (.sipush 255, 3) := by decide +kernel
theorem dX5_init_93 : decode cX5_init 93 = .ok (.iand, 1) := by decide +kernel
theorem dX5_init_94 : decode cX5_init 94 = .ok (.putfield 61, 3) := by decide +kernel
theorem dX5_init_97 : decode cX5_init 97 = .ok (.return_, 1) := by decide +kernel
set_option maxRecDepth 20000 in
theorem ggX5_type_X4_add : GoodIn wsX5_type wsX4_add := goodIn_r _ [6, 7, 8, 18, 19] (by decide +kernel) (by decide +kernel)
set_option maxRecDepth 20000 in
theorem gX5_type_X4_add : GoodIn wsX5_type (wsV RX5 64 RX4 yX4_add wsX4_add) := goodIn_app (goodIn_of _ (by decide +kernel)) ggX5_type_X4_add
theorem dX5_type_0 : decode cX5_type 0 = .ok (.iload_n 3, 1) := by decide +kernel
theorem dX5_type_1 : decode cX5_type 1 = .ok (.iconst 1, 1) := by decide +kernel
theorem dX5_type_2 : decode cX5_type 2 = .ok (.if_icmp .lt 9, 3) := by decide +kernel
theorem dX5_type_5 : decode cX5_type 5 = .ok (.iload_n 3, 1) := by decide +kernel
theorem dX5_type_6 : decode cX5_type 6 = .ok (.bipush 8, 2) := by decide +kernel
theorem dX5_type_8 : decode cX5_type 8 = .ok (.if_icmp .le 5, 3) := by decide +kernel
theorem dX5_type_11 : decode cX5_type 11 = .ok (.iconst (-1), 1) := by decide +kernel
theorem dX5_type_12 : decode cX5_type 12 = .ok (.ireturn, 1) := by decide +kernel
theorem dX5_type_13 : decode cX5_type 13 = .ok (.aload_n 0, 1) := by decide +kernel
theorem dX5_type_14 : decode cX5_type 14 = .ok (.getfield 19, 3) := by decide +kernel
theorem dX5_type_17 : decode cX5_type 17 = .ok (.lload_n 1, 1) := by decide +kernel
theorem dX5_type_18 : decode cX5_type 18 = .ok (.iload_n 3, 1) := by decide +kernel
theorem dX5_type_19 : decode cX5_type 19 = .ok (.invokevirtual 64, 3) := by decide +kernel
theorem dX5_type_22 : decode cX5_type 22 = .ok (.ifCond .eq 13, 3) := by decide +kernel
theorem dX5_type_25 : decode cX5_type 25 = .ok (.aload_n 0, 1) := by decide +kernel
theorem dX5_type_26 : decode cX5_type 26 = .ok (.getfield 19, 3) := by decide +kernel
theorem dX5_type_29 : decode cX5_type 29 = .ok (.getfield 68, 3) := by decide +kernel
theorem dX5_type_32 : decode cX5_type 32 = .ok (.goto 5, 3) := by decide +kernel
theorem dX5_type_35 : decode cX5_type 35 = .ok (.bipush (-8), 2) := by decide +kernel
theorem dX5_type_37 : decode cX5_type 37 = .ok (.ireturn, 1) := by decide +kernel
set_option maxRecDepth 20000 in
theorem ggX5_factory_X5_isSequence : GoodIn wsX5_factory wsX5_isSequence := goodIn_r _ [8] (by decide +kernel) (by decide +kernel)
set_option maxRecDepth 20000 in
theorem gX5_factory_X5_isSequence : GoodIn wsX5_factory (va_wsS RX5 75 yX5_isSequence wsX5_isSequence) := goodIn_app (goodIn_of _ (by decide +kernel)) ggX5_factory_X5_isSequence
set_option maxRecDepth 20000 in
theorem ggX5_factory_X3_eraseImage : GoodIn wsX5_factory wsX3_eraseImage := goodIn_r _ [13, 14, 15, 16, 17, 18, 19, 20, 21, 22, 23, 24, 25, 26, 27, 28, 29, 96, 97, 98, 88, 89, 90, 91, 92, 93] (by decide +kernel) (by decide +kernel)
set_option maxRecDepth 20000 in
theorem gX5_factory_X3_eraseImage : GoodIn wsX5_factory (wsV RX5 79 RX3 yX3_eraseImage wsX3_eraseImage) := goodIn_app (goodIn_of _ (by decide +kernel)) ggX5_factory_X3_eraseImage
set_option maxRecDepth 20000 in
theorem ggX5_factory_X3_eraseHeader : GoodIn wsX5_factory wsX3_eraseHeader := goodIn_r _ [33, 14, 15, 16, 17, 18, 19, 20, 21, 22, 23, 24, 25, 26, 27, 28, 29, 96, 97, 98, 88, 89, 90, 91, 92, 93] (by decide +kernel) (by decide +kernel)
set_option maxRecDepth 20000 in
theorem gX5_factory_X3_eraseHeader : GoodIn wsX5_factory (wsV RX5 83 RX3 yX3_eraseHeader wsX3_eraseHeader) := goodIn_app (goodIn_of _ (by decide +kernel)) ggX5_factory_X3_eraseHeader
set_option maxRecDepth 20000 in
theorem ggX5_factory_X0_erase : GoodIn wsX5_factory wsX0_erase := goodIn_r _ [19, 20, 21, 22, 23, 24, 25, 18, 26, 27, 28, 29, 88, 89, 90, 91, 92, 93] (by decide +kernel) (by decide +kernel)
set_option maxRecDepth 20000 in
theorem gX5_factory_X0_erase : GoodIn wsX5_factory (wsV RX5 86 RX0 yX0_erase wsX0_erase) := goodIn_app (goodIn_of _ (by decide +kernel)) ggX5_factory_X0_erase
set_option maxRecDepth 20000 in
theorem ggX5_factory_X3_programImage : GoodIn wsX5_factory wsX3_programImage := goodIn_r _ [38, 39, 40, 41, 42, 18, 43, 44, 45, 46, 47, 20, 21, 22, 23, 24, 25, 26, 27, 28, 29, 96, 97, 98, 88, 89, 90, 91, 92, 93] (by decide +kernel) (by decide +kernel)
set_option maxRecDepth 20000 in
theorem gX5_factory_X3_programImage : GoodIn wsX5_factory (wsV RX5 92 RX3 yX3_programImage wsX3_programImage) := goodIn_app (goodIn_of _ (by decide +kernel)) ggX5_factory_X3_programImage
set_option maxRecDepth 20000 in
theorem ggX5_factory_X5_digest : GoodIn wsX5_factory wsX5_digest := goodIn_r _ [50, 51, 52, 7, 53, 54] (by decide +kernel) (by decide +kernel)
set_option maxRecDepth 20000 in
theorem gX5_factory_X5_digest : GoodIn wsX5_factory (va_wsS RX5 96 yX5_digest wsX5_digest) := goodIn_app (goodIn_of _ (by decide +kernel)) ggX5_factory_X5_digest
set_option maxRecDepth 20000 in
theorem ggX5_factory_X3_programName : GoodIn wsX5_factory wsX3_programName := goodIn_r _ [58, 59, 60, 45, 46, 18, 47, 20, 21, 22, 23, 24, 25, 26, 27, 28, 29, 61, 62, 63, 64, 65, 7, 66, 44, 96, 97, 98, 88, 89, 90, 91, 92, 93] (by decide +kernel) (by decide +kernel)
set_option maxRecDepth 20000 in
theorem gX5_factory_X3_programName : GoodIn wsX5_factory (wsV RX5 100 RX3 yX3_programName wsX3_programName) := goodIn_app (goodIn_of _ (by decide +kernel)) ggX5_factory_X3_programName
set_option maxRecDepth 20000 in
theorem ggX5_factory_X3_programConfirmed : GoodIn wsX5_factory wsX3_programConfirmed := goodIn_r _ [70, 59, 60, 45, 46, 18, 47, 20, 21, 22, 23, 24, 25, 26, 27, 28, 29, 96, 97, 98, 88, 89, 90, 91, 92, 93] (by decide +kernel) (by decide +kernel)
set_option maxRecDepth 20000 in
theorem gX5_factory_X3_programConfirmed : GoodIn wsX5_factory (wsV RX5 104 RX3 yX3_programConfirmed wsX3_programConfirmed) := goodIn_app (goodIn_of _ (by decide +kernel)) ggX5_factory_X3_programConfirmed
set_option maxRecDepth 20000 in
theorem ggX5_factory_X3_programWhole : GoodIn wsX5_factory wsX3_programWhole := goodIn_r _ [74, 59, 60, 45, 46, 18, 47, 20, 21, 22, 23, 24, 25, 26, 27, 28, 29, 96, 97, 98, 88, 89, 90, 91, 92, 93] (by decide +kernel) (by decide +kernel)
set_option maxRecDepth 20000 in
theorem gX5_factory_X3_programWhole : GoodIn wsX5_factory (wsV RX5 107 RX3 yX3_programWhole wsX3_programWhole) := goodIn_app (goodIn_of _ (by decide +kernel)) ggX5_factory_X3_programWhole
set_option maxRecDepth 20000 in
theorem ggX5_factory_X5_unlessTorn : GoodIn wsX5_factory wsX5_unlessTorn := goodIn_r _ [78, 1, 3, 79, 80, 81, 82, 83, 84, 85, 86, 87, 88, 89, 90, 91, 92, 93] (by decide +kernel) (by decide +kernel)
set_option maxRecDepth 20000 in
theorem gX5_factory_X5_unlessTorn : GoodIn wsX5_factory (wsV RX5 110 RX5 yX5_unlessTorn wsX5_unlessTorn) := goodIn_app (goodIn_of _ (by decide +kernel)) ggX5_factory_X5_unlessTorn
theorem dX5_factory_0 : decode cX5_factory 0 = .ok (.aload_n 0, 1) := by decide +kernel
theorem dX5_factory_1 : decode cX5_factory 1 = .ok (.getfield 12, 3) := by decide +kernel
theorem dX5_factory_4 : decode cX5_factory 4 = .ok (.getfield 71, 3) := by decide +kernel
theorem dX5_factory_7 : decode cX5_factory 7 = .ok (.ifCond .ne 6, 3) := by decide +kernel
theorem dX5_factory_10 : decode cX5_factory 10 = .ok (.bipush (-2), 2) := by decide +kernel
theorem dX5_factory_12 : decode cX5_factory 12 = .ok (.ireturn, 1) := by decide +kernel
theorem dX5_factory_13 : decode cX5_factory 13 = .ok (.iload_n 1, 1) := by decide +kernel
theorem dX5_factory_14 : decode cX5_factory 14 = .ok (.invokestatic 75, 3) := by decide +kernel
theorem dX5_factory_17 : decode cX5_factory 17 = .ok (.ifCond .eq 14, 3) := by decide +kernel
theorem dX5_factory_20 : decode cX5_factory 20 = .ok (.aload_n 0, 1) := by decide +kernel
theorem dX5_factory_21 : decode cX5_factory 21 = .ok (.getfield 19, 3) := by decide +kernel
theorem dX5_factory_24 : decode cX5_factory 24 = .ok (.getfield 68, 3) := by decide +kernel
theorem dX5_factory_27 : decode cX5_factory 27 = .ok (.iconst 1, 1) := by decide +kernel
theorem dX5_factory_28 : decode cX5_factory 28 = .ok (.if_icmp .ge 5, 3) := by decide +kernel
theorem dX5_factory_31 : decode cX5_factory 31 = .ok (.iconst (-1), 1) := by decide +kernel
theorem dX5_factory_32 : decode cX5_factory 32 = .ok (.ireturn, 1) := by decide +kernel
theorem dX5_factory_33 : decode cX5_factory 33 = .ok (.aload_n 0, 1) := by decide +kernel
theorem dX5_factory_34 : decode cX5_factory 34 = .ok (.bipush (-7), 2) := by decide +kernel
theorem dX5_factory_36 : decode cX5_factory 36 = .ok (.putfield 49, 3) := by decide +kernel
theorem dX5_factory_39 : decode cX5_factory 39 = .ok (.aload_n 0, 1) := by decide +kernel
theorem dX5_factory_40 : decode cX5_factory 40 = .ok (.getfield 28, 3) := by decide +kernel
theorem dX5_factory_43 : decode cX5_factory 43 = .ok (.aload_n 0, 1) := by decide +kernel
theorem dX5_factory_44 : decode cX5_factory 44 = .ok (.getfield 12, 3) := by decide +kernel
theorem dX5_factory_47 : decode cX5_factory 47 = .ok (.invokevirtual 79, 3) := by decide +kernel
theorem dX5_factory_50 : decode cX5_factory 50 = .ok (.aload_n 0, 1) := by decide +kernel
theorem dX5_factory_51 : decode cX5_factory 51 = .ok (.getfield 28, 3) := by decide +kernel
theorem dX5_factory_54 : decode cX5_factory 54 = .ok (.aload_n 0, 1) := by decide +kernel
theorem dX5_factory_55 : decode cX5_factory 55 = .ok (.getfield 12, 3) := by decide +kernel
theorem dX5_factory_58 : decode cX5_factory 58 = .ok (.invokevirtual 83, 3) := by decide +kernel
theorem dX5_factory_61 : decode cX5_factory 61 = .ok (.aload_n 0, 1) := by decide +kernel
theorem dX5_factory_62 : decode cX5_factory 62 = .ok (.getfield 12, 3) := by decide +kernel
theorem dX5_factory_65 : decode cX5_factory 65 = .ok (.bipush 22, 2) := by decide +kernel
theorem dX5_factory_67 : decode cX5_factory 67 = .ok (.invokevirtual 86, 3) := by decide +kernel
theorem dX5_factory_70 : decode cX5_factory 70 = .ok (.aload_n 0, 1) := by decide +kernel
theorem dX5_factory_71 : decode cX5_factory 71 = .ok (.getfield 28, 3) := by decide +kernel
theorem dX5_factory_74 : decode cX5_factory 74 = .ok (.aload_n 0, 1) := by decide +kernel
theorem dX5_factory_75 : decode cX5_factory 75 = .ok (.getfield 12, 3) := by decide +kernel
theorem dX5_factory_78 : decode cX5_factory 78 = .ok (.aload_n 0, 1) := by decide +kernel
theorem dX5_factory_79 : decode cX5_factory 79 = .ok (.getfield 19, 3) := by decide +kernel
theorem dX5_factory_82 : decode cX5_factory 82 = .ok (.getfield 89, 3) := by decide +kernel
theorem dX5_factory_85 : decode cX5_factory 85 = .ok (.aload_n 0, 1) := by decide +kernel
theorem dX5_factory_86 : decode cX5_factory 86 = .ok (.getfield 19, 3) := by decide +kernel
theorem dX5_factory_89 : decode cX5_factory 89 = .ok (.getfield 68, 3) := by decide +kernel
theorem dX5_factory_92 : decode cX5_factory 92 = .ok (.invokevirtual 92, 3) := by decide +kernel
theorem dX5_factory_95 : decode cX5_factory 95 = .ok (.aload_n 0, 1) := by decide +kernel
theorem dX5_factory_96 : decode cX5_factory 96 = .ok (.getfield 28, 3) := by decide +kernel
end
section
theorem dX5_factory_99 : decode cX5_factory 99 = .ok (.aload_n 0, 1) := by decide +kernel
theorem dX5_factory_100 : decode cX5_factory 100 = .ok (.getfield 12, 3) := by decide +kernel
theorem dX5_factory_103 : decode cX5_factory 103 = .ok (.aload_n 0, 1) := by decide +kernel
theorem dX5_factory_104 : decode cX5_factory 104 = .ok (.getfield 19, 3) := by decide +kernel
theorem dX5_factory_107 : decode cX5_factory 107 = .ok (.getfield 68, 3) := by decide +kernel
theorem dX5_factory_110 : decode cX5_factory 110 = .ok (.iload_n 1, 1) := by decide +kernel
theorem dX5_factory_111 : decode cX5_factory 111 = .ok (.iconst 0, 1) := by decide +kernel
theorem dX5_factory_112 : decode cX5_factory 112 = .ok (.aload_n 0, 1) := by decide +kernel
theorem dX5_factory_113 : decode cX5_factory 113 = .ok (.getfield 19, 3) := by decide +kernel
theorem dX5_factory_116 : decode cX5_factory 116 = .ok (.getfield 89, 3) := by decide +kernel
theorem dX5_factory_119 : decode cX5_factory 119 = .ok (.aload_n 0, 1) := by decide +kernel
theorem dX5_factory_120 : decode cX5_factory 120 = .ok (.getfield 19, 3) := by decide +kernel
theorem dX5_factory_123 : decode cX5_factory 123 = .ok (.getfield 68, 3) := by decide +kernel
theorem dX5_factory_126 : decode cX5_factory 126 = .ok (.invokestatic 96, 3) := by decide +kernel
theorem dX5_factory_129 : decode cX5_factory 129 = .ok (.invokevirtual 100, 3) := by decide +kernel
theorem dX5_factory_132 : decode cX5_factory 132 = .ok (.aload_n 0, 1) := by decide +kernel
theorem dX5_factory_133 : decode cX5_factory 133 = .ok (.getfield 28, 3) := by decide +kernel
theorem dX5_factory_136 : decode cX5_factory 136 = .ok (.aload_n 0, 1) := by decide +kernel
theorem dX5_factory_137 : decode cX5_factory 137 = .ok (.getfield 12, 3) := by decide +kernel
theorem dX5_factory_140 : decode cX5_factory 140 = .ok (.invokevirtual 104, 3) := by decide +kernel
theorem dX5_factory_143 : decode cX5_factory 143 = .ok (.aload_n 0, 1) := by decide +kernel
theorem dX5_factory_144 : decode cX5_factory 144 = .ok (.getfield 28, 3) := by decide +kernel
theorem dX5_factory_147 : decode cX5_factory 147 = .ok (.aload_n 0, 1) := by decide +kernel
theorem dX5_factory_148 : decode cX5_factory 148 = .ok (.getfield 12, 3) := by decide +kernel
theorem dX5_factory_151 : decode cX5_factory 151 = .ok (.invokevirtual 107, 3) := by decide +kernel
theorem dX5_factory_154 : decode cX5_factory 154 = .ok (.aload_n 0, 1) := by decide +kernel
theorem dX5_factory_155 : decode cX5_factory 155 = .ok (.getfield 19, 3) := by decide +kernel
theorem dX5_factory_158 : decode cX5_factory 158 = .ok (.iconst 0, 1) := by decide +kernel
theorem dX5_factory_159 : decode cX5_factory 159 = .ok (.putfield 68, 3) := by decide +kernel
theorem dX5_factory_162 : decode cX5_factory 162 = .ok (.aload_n 0, 1) := by decide +kernel
theorem dX5_factory_163 : decode cX5_factory 163 = .ok (.iconst 1, 1) := by decide +kernel
theorem dX5_factory_164 : decode cX5_factory 164 = .ok (.invokevirtual 110, 3) := by decide +kernel
theorem dX5_factory_167 : decode cX5_factory 167 = .ok (.ireturn, 1) := by decide +kernel
set_option maxRecDepth 20000 in
theorem ggX5_manifest_X5_judgeTape : GoodIn wsX5_manifest wsX5_judgeTape := goodIn_r _ [7, 2, 8, 1, 9, 10, 11, 12, 13, 14, 15, 16, 17, 18, 19, 20, 21, 22, 23, 24, 25, 26, 27, 6, 28, 29, 30, 31, 32, 33, 34, 35, 36, 37, 38, 39, 40, 41, 42, 43, 44, 45, 46, 47, 48, 49, 50, 51, 52, 53, 54, 55, 56, 57, 58, 59, 60, 61, 62, 63, 64, 65, 66, 67, 68, 69, 70, 71, 72, 73, 74, 75, 76, 77, 78, 79, 80, 81, 82, 83, 84, 85, 86, 87, 88, 89, 90, 91, 92, 93, 94, 95, 96, 97, 98, 99, 100, 101, 102, 103, 133, 134, 135, 136, 137, 138, 139, 140, 141, 148, 149, 150, 142, 143, 144, 145, 146, 147, 151, 152, 153] (by decide +kernel) (by decide +kernel)
set_option maxRecDepth 20000 in
theorem gX5_manifest_X5_judgeTape : GoodIn wsX5_manifest (wsV RX5 114 RX5 yX5_judgeTape wsX5_judgeTape) := goodIn_app (goodIn_of _ (by decide +kernel)) ggX5_manifest_X5_judgeTape
set_option maxRecDepth 20000 in
theorem ggX5_manifest_X5_stageAnew : GoodIn wsX5_manifest wsX5_stageAnew := goodIn_r _ [107, 1, 8, 108, 109, 110, 76, 111, 112, 113, 78, 114, 115, 116, 117, 118, 119, 120, 121, 122, 123, 124, 125, 126, 127, 128, 133, 134, 135, 136, 137, 138, 139, 140, 141, 150, 142, 143, 144, 145, 146, 147] (by decide +kernel) (by decide +kernel)
set_option maxRecDepth 20000 in
theorem gX5_manifest_X5_stageAnew : GoodIn wsX5_manifest (wsV RX5 118 RX5 yX5_stageAnew wsX5_stageAnew) := goodIn_app (goodIn_of _ (by decide +kernel)) ggX5_manifest_X5_stageAnew
set_option maxRecDepth 20000 in
theorem ggX5_manifest_X5_unlessTorn : GoodIn wsX5_manifest wsX5_unlessTorn := goodIn_r _ [132, 1, 68, 133, 134, 135, 136, 137, 138, 139, 140, 141, 142, 143, 144, 145, 146, 147] (by decide +kernel) (by decide +kernel)
set_option maxRecDepth 20000 in
theorem gX5_manifest_X5_unlessTorn : GoodIn wsX5_manifest (wsV RX5 110 RX5 yX5_unlessTorn wsX5_unlessTorn) := goodIn_app (goodIn_of _ (by decide +kernel)) ggX5_manifest_X5_unlessTorn
theorem dX5_manifest_0 : decode cX5_manifest 0 = .ok (.aload_n 0, 1) := by decide +kernel
theorem dX5_manifest_1 : decode cX5_manifest 1 = .ok (.getfield 12, 3) := by decide +kernel
theorem dX5_manifest_4 : decode cX5_manifest 4 = .ok (.getfield 71, 3) := by decide +kernel
theorem dX5_manifest_7 : decode cX5_manifest 7 = .ok (.ifCond .ne 6, 3) := by decide +kernel
theorem dX5_manifest_10 : decode cX5_manifest 10 = .ok (.bipush (-2), 2) := by decide +kernel
theorem dX5_manifest_12 : decode cX5_manifest 12 = .ok (.ireturn, 1) := by decide +kernel
theorem dX5_manifest_13 : decode cX5_manifest 13 = .ok (.aload_n 0, 1) := by decide +kernel
theorem dX5_manifest_14 : decode cX5_manifest 14 = .ok (.invokevirtual 114, 3) := by decide +kernel
theorem dX5_manifest_17 : decode cX5_manifest 17 = .ok (.istore_n 1, 1) := by decide +kernel
theorem dX5_manifest_18 : decode cX5_manifest 18 = .ok (.iload_n 1, 1) := by decide +kernel
theorem dX5_manifest_19 : decode cX5_manifest 19 = .ok (.ifCond .ne 7, 3) := by decide +kernel
theorem dX5_manifest_22 : decode cX5_manifest 22 = .ok (.aload_n 0, 1) := by decide +kernel
theorem dX5_manifest_23 : decode cX5_manifest 23 = .ok (.invokevirtual 118, 3) := by decide +kernel
theorem dX5_manifest_26 : decode cX5_manifest 26 = .ok (.aload_n 0, 1) := by decide +kernel
theorem dX5_manifest_27 : decode cX5_manifest 27 = .ok (.getfield 19, 3) := by decide +kernel
theorem dX5_manifest_30 : decode cX5_manifest 30 = .ok (.iconst 0, 1) := by decide +kernel
theorem dX5_manifest_31 : decode cX5_manifest 31 = .ok (.putfield 68, 3) := by decide +kernel
theorem dX5_manifest_34 : decode cX5_manifest 34 = .ok (.aload_n 0, 1) := by decide +kernel
theorem dX5_manifest_35 : decode cX5_manifest 35 = .ok (.iload_n 1, 1) := by decide +kernel
theorem dX5_manifest_36 : decode cX5_manifest 36 = .ok (.invokevirtual 110, 3) := by decide +kernel
theorem dX5_manifest_39 : decode cX5_manifest 39 = .ok (.ireturn, 1) := by decide +kernel
set_option maxRecDepth 20000 in
theorem ggX5_block_X5_readStagedManifest : GoodIn wsX5_block wsX5_readStagedManifest := goodIn_r _ [8, 2, 1, 9, 10, 11, 12, 13, 14, 15, 16, 17, 18, 19, 20, 21, 22, 23, 24, 25, 26, 27, 28, 29, 7, 30, 31, 32, 33, 34, 35, 36, 37, 38, 39, 40, 41, 42, 43, 44, 45, 46, 47, 48, 49, 50, 51, 52, 53, 54, 55, 56, 57, 58, 59, 60, 61, 62, 63, 64, 108, 109, 110, 111, 112, 113, 114, 115, 116, 125, 117, 118, 119, 120, 121, 122] (by decide +kernel) (by decide +kernel)
set_option maxRecDepth 20000 in
theorem gX5_block_X5_readStagedManifest : GoodIn wsX5_block (wsV RX5 121 RX5 yX5_readStagedManifest wsX5_readStagedManifest) := goodIn_app (goodIn_of _ (by decide +kernel)) ggX5_block_X5_readStagedManifest
set_option maxRecDepth 20000 in
theorem ggX5_block_X1_payloadLength : GoodIn wsX5_block wsX1_payloadLength := goodIn_r _ [34, 14, 125] (by decide +kernel) (by decide +kernel)
set_option maxRecDepth 20000 in
theorem gX5_block_X1_payloadLength : GoodIn wsX5_block (wsV RX5 125 RX1 yX1_payloadLength wsX1_payloadLength) := goodIn_app (goodIn_of _ (by decide +kernel)) ggX5_block_X1_payloadLength
set_option maxRecDepth 20000 in
theorem ggX5_block_X5_isBlockOf : GoodIn wsX5_block wsX5_isBlockOf := goodIn_r _ [68, 69, 70, 7, 71] (by decide +kernel) (by decide +kernel)
set_option maxRecDepth 20000 in
theorem gX5_block_X5_isBlockOf : GoodIn wsX5_block (va_wsS RX5 128 yX5_isBlockOf wsX5_isBlockOf) := goodIn_app (goodIn_of _ (by decide +kernel)) ggX5_block_X5_isBlockOf
set_option maxRecDepth 20000 in
theorem ggX5_block_X5_blockLength : GoodIn wsX5_block wsX5_blockLength := goodIn_r _ [75, 2, 76, 77, 78, 79, 65, 32, 33, 12, 34, 14, 108, 109, 110, 111, 112, 113, 114, 115, 116, 125] (by decide +kernel) (by decide +kernel)
set_option maxRecDepth 20000 in
theorem gX5_block_X5_blockLength : GoodIn wsX5_block (wsV RX5 132 RX5 yX5_blockLength wsX5_blockLength) := goodIn_app (goodIn_of _ (by decide +kernel)) ggX5_block_X5_blockLength
set_option maxRecDepth 20000 in
theorem ggX5_block_X5_isThere : GoodIn wsX5_block wsX5_isThere := goodIn_r _ [83, 1, 84, 16, 17, 18, 19, 20, 108, 109, 110, 111, 112, 113, 114, 115, 116, 117, 118, 119, 120, 121, 122] (by decide +kernel) (by decide +kernel)
set_option maxRecDepth 20000 in
theorem gX5_block_X5_isThere : GoodIn wsX5_block (wsV RX5 135 RX5 yX5_isThere wsX5_isThere) := goodIn_app (goodIn_of _ (by decide +kernel)) ggX5_block_X5_isThere
set_option maxRecDepth 20000 in
theorem ggX5_block_X0_programRow : GoodIn wsX5_block wsX0_programRow := goodIn_r _ [88, 89, 90, 91, 18, 92, 93, 94, 20, 95, 96, 97, 98, 99, 100, 101, 117, 118, 119, 120, 121, 122] (by decide +kernel) (by decide +kernel)
set_option maxRecDepth 20000 in
theorem gX5_block_X0_programRow : GoodIn wsX5_block (wsV RX5 138 RX0 yX0_programRow wsX0_programRow) := goodIn_app (goodIn_of _ (by decide +kernel)) ggX5_block_X0_programRow
set_option maxRecDepth 20000 in
theorem ggX5_block_X0_program : GoodIn wsX5_block wsX0_program := goodIn_r _ [92, 93, 94, 20, 95, 96, 97, 18, 98, 99, 100, 101, 117, 118, 119, 120, 121, 122] (by decide +kernel) (by decide +kernel)
set_option maxRecDepth 20000 in
theorem gX5_block_X0_program : GoodIn wsX5_block (wsV RX5 142 RX0 yX0_program wsX0_program) := goodIn_app (goodIn_of _ (by decide +kernel)) ggX5_block_X0_program
set_option maxRecDepth 20000 in
theorem ggX5_block_X5_unlessTorn : GoodIn wsX5_block wsX5_unlessTorn := goodIn_r _ [106, 1, 107, 108, 109, 110, 111, 112, 113, 114, 115, 116, 117, 118, 119, 120, 121, 122] (by decide +kernel) (by decide +kernel)
set_option maxRecDepth 20000 in
theorem gX5_block_X5_unlessTorn : GoodIn wsX5_block (wsV RX5 110 RX5 yX5_unlessTorn wsX5_unlessTorn) := goodIn_app (goodIn_of _ (by decide +kernel)) ggX5_block_X5_unlessTorn
theorem dX5_block_0 : decode cX5_block 0 = .ok (.aload_n 0, 1) := by decide +kernel
theorem dX5_block_1 : decode cX5_block 1 = .ok (.getfield 12, 3) := by decide +kernel
theorem dX5_block_4 : decode cX5_block 4 = .ok (.getfield 71, 3) := by decide +kernel
theorem dX5_block_7 : decode cX5_block 7 = .ok (.ifCond .ne 6, 3) := by decide +kernel
theorem dX5_block_10 : decode cX5_block 10 = .ok (.bipush (-2), 2) := by decide +kernel
theorem dX5_block_12 : decode cX5_block 12 = .ok (.ireturn, 1) := by decide +kernel
theorem dX5_block_13 : decode cX5_block 13 = .ok (.aload_n 0, 1) := by decide +kernel
theorem dX5_block_14 : decode cX5_block 14 = .ok (.invokevirtual 121, 3) := by decide +kernel
theorem dX5_block_17 : decode cX5_block 17 = .ok (.ifCond .eq 32, 3) := by decide +kernel
theorem dX5_block_20 : decode cX5_block 20 = .ok (.iload_n 1, 1) := by decide +kernel
theorem dX5_block_21 : decode cX5_block 21 = .ok (.aload_n 0, 1) := by decide +kernel
theorem dX5_block_22 : decode cX5_block 22 = .ok (.getfield 38, 3) := by decide +kernel
theorem dX5_block_25 : decode cX5_block 25 = .ok (.invokevirtual 125, 3) := by decide +kernel
theorem dX5_block_28 : decode cX5_block 28 = .ok (.invokestatic 128, 3) := by decide +kernel
theorem dX5_block_31 : decode cX5_block 31 = .ok (.ifCond .eq 18, 3) := by decide +kernel
theorem dX5_block_34 : decode cX5_block 34 = .ok (.aload_n 0, 1) := by decide +kernel
theorem dX5_block_35 : decode cX5_block 35 = .ok (.getfield 19, 3) := by decide +kernel
theorem dX5_block_38 : decode cX5_block 38 = .ok (.getfield 68, 3) := by decide +kernel
theorem dX5_block_41 : decode cX5_block 41 = .ok (.aload_n 0, 1) := by decide +kernel
theorem dX5_block_42 : decode cX5_block 42 = .ok (.iload_n 1, 1) := by decide +kernel
theorem dX5_block_43 : decode cX5_block 43 = .ok (.invokevirtual 132, 3) := by decide +kernel
theorem dX5_block_46 : decode cX5_block 46 = .ok (.if_icmp .eq 5, 3) := by decide +kernel
theorem dX5_block_49 : decode cX5_block 49 = .ok (.iconst (-1), 1) := by decide +kernel
theorem dX5_block_50 : decode cX5_block 50 = .ok (.ireturn, 1) := by decide +kernel
theorem dX5_block_51 : decode cX5_block 51 = .ok (.aload_n 0, 1) := by decide +kernel
theorem dX5_block_52 : decode cX5_block 52 = .ok (.iload_n 1, 1) := by decide +kernel
theorem dX5_block_53 : decode cX5_block 53 = .ok (.invokevirtual 135, 3) := by decide +kernel
theorem dX5_block_56 : decode cX5_block 56 = .ok (.ifCond .ne 7, 3) := by decide +kernel
theorem dX5_block_59 : decode cX5_block 59 = .ok (.iconst 1, 1) := by decide +kernel
theorem dX5_block_60 : decode cX5_block 60 = .ok (.goto 4, 3) := by decide +kernel
theorem dX5_block_63 : decode cX5_block 63 = .ok (.iconst 0, 1) := by decide +kernel
theorem dX5_block_64 : decode cX5_block 64 = .ok (.istore_n 2, 1) := by decide +kernel
theorem dX5_block_65 : decode cX5_block 65 = .ok (.iload_n 2, 1) := by decide +kernel
theorem dX5_block_66 : decode cX5_block 66 = .ok (.ifCond .eq 45, 3) := by decide +kernel
theorem dX5_block_69 : decode cX5_block 69 = .ok (.aload_n 0, 1) := by decide +kernel
theorem dX5_block_70 : decode cX5_block 70 = .ok (.getfield 12, 3) := by decide +kernel
theorem dX5_block_73 : decode cX5_block 73 = .ok (.sipush 448, 3) := by decide +kernel
theorem dX5_block_76 : decode cX5_block 76 = .ok (.bipush 16, 2) := by decide +kernel
theorem dX5_block_78 : decode cX5_block 78 = .ok (.iload_n 1, 1) := by decide +kernel
theorem dX5_block_79 : decode cX5_block 79 = .ok (.imul, 1) := by decide +kernel
theorem dX5_block_80 : decode cX5_block 80 = .ok (.iadd, 1) := by decide +kernel
theorem dX5_block_81 : decode cX5_block 81 = .ok (.aload_n 0, 1) := by decide +kernel
theorem dX5_block_82 : decode cX5_block 82 = .ok (.getfield 19, 3) := by decide +kernel
theorem dX5_block_85 : decode cX5_block 85 = .ok (.getfield 89, 3) := by decide +kernel
theorem dX5_block_88 : decode cX5_block 88 = .ok (.aload_n 0, 1) := by decide +kernel
theorem dX5_block_89 : decode cX5_block 89 = .ok (.getfield 19, 3) := by decide +kernel
theorem dX5_block_92 : decode cX5_block 92 = .ok (.getfield 68, 3) := by decide +kernel
theorem dX5_block_95 : decode cX5_block 95 = .ok (.invokevirtual 138, 3) := by decide +kernel
theorem dX5_block_98 : decode cX5_block 98 = .ok (.aload_n 0, 1) := by decide +kernel
theorem dX5_block_99 : decode cX5_block 99 = .ok (.getfield 12, 3) := by decide +kernel
theorem dX5_block_102 : decode cX5_block 102 = .ok (.sipush 672, 3) := by decide +kernel
theorem dX5_block_105 : decode cX5_block 105 = .ok (.iload_n 1, 1) := by decide +kernel
theorem dX5_block_106 : decode cX5_block 106 = .ok (.iadd, 1) := by decide +kernel
theorem dX5_block_107 : decode cX5_block 107 = .ok (.iconst 0, 1) := by decide +kernel
theorem dX5_block_108 : decode cX5_block 108 = .ok (.invokevirtual 142, 3) := by decide +kernel
theorem dX5_block_111 : decode cX5_block 111 = .ok (.aload_n 0, 1) := by decide +kernel
theorem dX5_block_112 : decode cX5_block 112 = .ok (.getfield 19, 3) := by decide +kernel
theorem dX5_block_115 : decode cX5_block 115 = .ok (.iconst 0, 1) := by decide +kernel
theorem dX5_block_116 : decode cX5_block 116 = .ok (.putfield 68, 3) := by decide +kernel
theorem dX5_block_119 : decode cX5_block 119 = .ok (.aload_n 0, 1) := by decide +kernel
theorem dX5_block_120 : decode cX5_block 120 = .ok (.iload_n 2, 1) := by decide +kernel
theorem dX5_block_121 : decode cX5_block 121 = .ok (.ifCond .eq 7, 3) := by decide +kernel
theorem dX5_block_124 : decode cX5_block 124 = .ok (.iconst 1, 1) := by decide +kernel
theorem dX5_block_125 : decode cX5_block 125 = .ok (.goto 4, 3) := by decide +kernel
theorem dX5_block_128 : decode cX5_block 128 = .ok (.iconst 0, 1) := by decide +kernel
theorem dX5_block_129 : decode cX5_block 129 = .ok (.invokevirtual 110, 3) := by decide +kernel
theorem dX5_block_132 : decode cX5_block 132 = .ok (.ireturn, 1) := by decide +kernel
set_option maxRecDepth 20000 in
theorem ggX5_install_X5_readStagedManifest : GoodIn wsX5_install wsX5_readStagedManifest := goodIn_r _ [8, 2, 1, 9, 10, 11, 12, 13, 14, 15, 16, 17, 18, 19, 20, 21, 22, 23, 24, 25, 26, 27, 28, 29, 7, 30, 31, 32, 33, 34, 35, 36, 37, 38, 39, 40, 41, 42, 43, 44, 45, 46, 47, 48, 49, 50, 51, 52, 53, 54, 55, 56, 57, 58, 59, 60, 61, 62, 63, 64, 222, 223, 224, 225, 226, 227, 228, 229, 230, 237, 231, 232, 233, 234, 235, 236] (by decide +kernel) (by decide +kernel)
set_option maxRecDepth 20000 in
theorem gX5_install_X5_readStagedManifest : GoodIn wsX5_install (wsV RX5 121 RX5 yX5_readStagedManifest wsX5_readStagedManifest) := goodIn_app (goodIn_of _ (by decide +kernel)) ggX5_install_X5_readStagedManifest
set_option maxRecDepth 20000 in
theorem ggX5_install_X1_sequence : GoodIn wsX5_install wsX1_sequence := goodIn_r _ [28, 14, 237] (by decide +kernel) (by decide +kernel)
set_option maxRecDepth 20000 in
theorem gX5_install_X1_sequence : GoodIn wsX5_install (wsV RX5 146 RX1 yX1_sequence wsX1_sequence) := goodIn_app (goodIn_of _ (by decide +kernel)) ggX5_install_X1_sequence
set_option maxRecDepth 20000 in
theorem ggX5_install_X5_isOld : GoodIn wsX5_install wsX5_isOld := goodIn_r _ [69, 3, 1, 70, 71, 72, 7, 73, 74, 16, 17, 18, 19, 20, 75, 76, 77, 78, 79, 80, 81, 82, 83, 84, 85, 86, 87, 88, 89, 90, 91, 92, 93, 94, 222, 223, 224, 225, 226, 227, 228, 229, 230, 231, 232, 233, 234, 235, 236, 238, 239, 240] (by decide +kernel) (by decide +kernel)
set_option maxRecDepth 20000 in
theorem gX5_install_X5_isOld : GoodIn wsX5_install (wsV RX5 149 RX5 yX5_isOld wsX5_isOld) := goodIn_app (goodIn_of _ (by decide +kernel)) ggX5_install_X5_isOld
set_option maxRecDepth 20000 in
theorem ggX5_install_X5_isWhollyStaged : GoodIn wsX5_install wsX5_isWhollyStaged := goodIn_r _ [98, 2, 99, 32, 33, 12, 34, 14, 100, 101, 7, 102, 103, 104, 105, 106, 1, 74, 16, 17, 18, 19, 20, 222, 223, 224, 225, 226, 227, 228, 229, 230, 237, 231, 232, 233, 234, 235, 236] (by decide +kernel) (by decide +kernel)
set_option maxRecDepth 20000 in
theorem gX5_install_X5_isWhollyStaged : GoodIn wsX5_install (wsV RX5 152 RX5 yX5_isWhollyStaged wsX5_isWhollyStaged) := goodIn_app (goodIn_of _ (by decide +kernel)) ggX5_install_X5_isWhollyStaged
set_option maxRecDepth 20000 in
theorem ggX5_install_X5_slot : GoodIn wsX5_install wsX5_slot := goodIn_r _ [85, 86, 87, 222, 223, 224, 225, 226, 227, 228, 229, 230] (by decide +kernel) (by decide +kernel)
set_option maxRecDepth 20000 in
theorem gX5_install_X5_slot : GoodIn wsX5_install (wsV RX5 155 RX5 yX5_slot wsX5_slot) := goodIn_app (goodIn_of _ (by decide +kernel)) ggX5_install_X5_slot
set_option maxRecDepth 20000 in
theorem ggX5_install_X5_makeImage : GoodIn wsX5_install wsX5_makeImage := goodIn_r _ [110, 1, 2, 111, 99, 32, 33, 12, 34, 14, 112, 113, 114, 18, 115, 116, 16, 17, 19, 20, 54, 7, 55, 56, 117, 118, 119, 120, 57, 58, 59, 60, 121, 122, 123, 124, 125, 126, 127, 91, 128, 93, 129, 130, 131, 132, 133, 134, 135, 136, 94, 137, 138, 139, 140, 141, 142, 143, 144, 145, 146, 147, 148, 149, 150, 151, 152, 153, 38, 39, 40, 154, 51, 52, 53, 155, 156, 157, 158, 222, 223, 224, 225, 226, 227, 228, 229, 230, 238, 239, 240, 241, 242, 237, 231, 232, 233, 234, 235, 236] (by decide +kernel) (by decide +kernel)
set_option maxRecDepth 20000 in
theorem gX5_install_X5_makeImage : GoodIn wsX5_install (wsV RX5 159 RX5 yX5_makeImage wsX5_makeImage) := goodIn_app (goodIn_of _ (by decide +kernel)) ggX5_install_X5_makeImage
set_option maxRecDepth 20000 in
theorem ggX5_install_X5_programUpdate : GoodIn wsX5_install wsX5_programUpdate := goodIn_r _ [162, 1, 111, 2, 163, 164, 165, 91, 166, 167, 168, 169, 170, 18, 171, 172, 173, 20, 174, 175, 176, 177, 178, 179, 180, 181, 182, 183, 184, 185, 186, 187, 188, 189, 190, 191, 192, 193, 194, 195, 196, 197, 153, 38, 39, 12, 40, 14, 65, 26, 27, 28, 155, 156, 157, 158, 57, 58, 59, 60, 198, 199, 200, 201, 93, 202, 203, 204, 205, 206, 207, 7, 208, 209, 210, 211, 212, 213, 214, 215, 216, 217, 222, 223, 224, 225, 226, 227, 228, 229, 230, 241, 242, 238, 239, 240, 231, 232, 233, 234, 235, 236, 237] (by decide +kernel) (by decide +kernel)
set_option maxRecDepth 20000 in
theorem gX5_install_X5_programUpdate : GoodIn wsX5_install (wsV RX5 163 RX5 yX5_programUpdate wsX5_programUpdate) := goodIn_app (goodIn_of _ (by decide +kernel)) ggX5_install_X5_programUpdate
set_option maxRecDepth 20000 in
theorem ggX5_install_X5_unlessTorn : GoodIn wsX5_install wsX5_unlessTorn := goodIn_r _ [221, 1, 3, 222, 223, 224, 225, 226, 227, 228, 229, 230, 231, 232, 233, 234, 235, 236] (by decide +kernel) (by decide +kernel)
set_option maxRecDepth 20000 in
theorem gX5_install_X5_unlessTorn : GoodIn wsX5_install (wsV RX5 110 RX5 yX5_unlessTorn wsX5_unlessTorn) := goodIn_app (goodIn_of _ (by decide +kernel)) ggX5_install_X5_unlessTorn
theorem dX5_install_0 : decode cX5_install 0 = .ok (.aload_n 0, 1) := by decide +kernel
theorem dX5_install_1 : decode cX5_install 1 = .ok (.getfield 12, 3) := by decide +kernel
theorem dX5_install_4 : decode cX5_install 4 = .ok (.getfield 71, 3) := by decide +kernel
theorem dX5_install_7 : decode cX5_install 7 = .ok (.ifCond .ne 6, 3) := by decide +kernel
theorem dX5_install_10 : decode cX5_install 10 = .ok (.bipush (-2), 2) := by decide +kernel
theorem dX5_install_12 : decode cX5_install 12 = .ok (.ireturn, 1) := by decide +kernel
theorem dX5_install_13 : decode cX5_install 13 = .ok (.aload_n 0, 1) := by decide +kernel
theorem dX5_install_14 : decode cX5_install 14 = .ok (.invokevirtual 121, 3) := by decide +kernel
theorem dX5_install_17 : decode cX5_install 17 = .ok (.ifCond .ne 6, 3) := by decide +kernel
theorem dX5_install_20 : decode cX5_install 20 = .ok (.bipush (-7), 2) := by decide +kernel
theorem dX5_install_22 : decode cX5_install 22 = .ok (.ireturn, 1) := by decide +kernel
theorem dX5_install_23 : decode cX5_install 23 = .ok (.aload_n 0, 1) := by decide +kernel
theorem dX5_install_24 : decode cX5_install 24 = .ok (.aload_n 0, 1) := by decide +kernel
theorem dX5_install_25 : decode cX5_install 25 = .ok (.getfield 38, 3) := by decide +kernel
theorem dX5_install_28 : decode cX5_install 28 = .ok (.invokevirtual 146, 3) := by decide +kernel
theorem dX5_install_31 : decode cX5_install 31 = .ok (.invokevirtual 149, 3) := by decide +kernel
theorem dX5_install_34 : decode cX5_install 34 = .ok (.ifCond .eq 6, 3) := by decide +kernel
theorem dX5_install_37 : decode cX5_install 37 = .ok (.bipush (-3), 2) := by decide +kernel
theorem dX5_install_39 : decode cX5_install 39 = .ok (.ireturn, 1) := by decide +kernel
theorem dX5_install_40 : decode cX5_install 40 = .ok (.aload_n 0, 1) := by decide +kernel
theorem dX5_install_41 : decode cX5_install 41 = .ok (.invokevirtual 152, 3) := by decide +kernel
theorem dX5_install_44 : decode cX5_install 44 = .ok (.ifCond .ne 6, 3) := by decide +kernel
theorem dX5_install_47 : decode cX5_install 47 = .ok (.bipush (-5), 2) := by decide +kernel
theorem dX5_install_49 : decode cX5_install 49 = .ok (.ireturn, 1) := by decide +kernel
theorem dX5_install_50 : decode cX5_install 50 = .ok (.aload_n 0, 1) := by decide +kernel
theorem dX5_install_51 : decode cX5_install 51 = .ok (.aload_n 0, 1) := by decide +kernel
theorem dX5_install_52 : decode cX5_install 52 = .ok (.aload_n 0, 1) := by decide +kernel
theorem dX5_install_53 : decode cX5_install 53 = .ok (.getfield 49, 3) := by decide +kernel
theorem dX5_install_56 : decode cX5_install 56 = .ok (.invokevirtual 155, 3) := by decide +kernel
theorem dX5_install_59 : decode cX5_install 59 = .ok (.invokevirtual 159, 3) := by decide +kernel
theorem dX5_install_62 : decode cX5_install 62 = .ok (.ifCond .ne 6, 3) := by decide +kernel
theorem dX5_install_65 : decode cX5_install 65 = .ok (.bipush (-6), 2) := by decide +kernel
theorem dX5_install_67 : decode cX5_install 67 = .ok (.ireturn, 1) := by decide +kernel
theorem dX5_install_68 : decode cX5_install 68 = .ok (.aload_n 0, 1) := by decide +kernel
theorem dX5_install_69 : decode cX5_install 69 = .ok (.aload_n 0, 1) := by decide +kernel
theorem dX5_install_70 : decode cX5_install 70 = .ok (.iconst 1, 1) := by decide +kernel
theorem dX5_install_71 : decode cX5_install 71 = .ok (.aload_n 0, 1) := by decide +kernel
theorem dX5_install_72 : decode cX5_install 72 = .ok (.getfield 49, 3) := by decide +kernel
theorem dX5_install_75 : decode cX5_install 75 = .ok (.isub, 1) := by decide +kernel
theorem dX5_install_76 : decode cX5_install 76 = .ok (.invokevirtual 155, 3) := by decide +kernel
theorem dX5_install_79 : decode cX5_install 79 = .ok (.invokevirtual 163, 3) := by decide +kernel
theorem dX5_install_82 : decode cX5_install 82 = .ok (.aload_n 0, 1) := by decide +kernel
theorem dX5_install_83 : decode cX5_install 83 = .ok (.iconst 1, 1) := by decide +kernel
theorem dX5_install_84 : decode cX5_install 84 = .ok (.invokevirtual 110, 3) := by decide +kernel
theorem dX5_install_87 : decode cX5_install 87 = .ok (.ireturn, 1) := by decide +kernel
set_option maxRecDepth 20000 in
theorem ggX5_boot_X5_slotOnTrial : GoodIn wsX5_boot wsX5_slotOnTrial := goodIn_r _ [7, 8, 1, 9, 10, 11, 12, 6, 13, 14, 15, 16, 17, 18, 19, 20, 21, 22, 23, 24, 25, 26, 27, 28, 29, 30, 31, 32, 33, 34, 35, 36, 37, 38, 39, 40, 41, 42, 43, 44, 45, 46, 47, 48, 49, 50, 51, 52, 53, 54, 55, 56, 57, 58, 59, 60, 61, 62, 63, 64, 65, 66, 67, 68, 69, 70, 71, 72, 73, 74, 75, 76, 77, 78, 79, 80, 81, 116, 117, 118, 119, 120, 121, 122, 123, 124, 125, 126, 127, 128, 129, 130, 131, 132, 133] (by decide +kernel) (by decide +kernel)
set_option maxRecDepth 20000 in
theorem gX5_boot_X5_slotOnTrial : GoodIn wsX5_boot (wsV RX5 167 RX5 yX5_slotOnTrial wsX5_slotOnTrial) := goodIn_app (goodIn_of _ (by decide +kernel)) ggX5_boot_X5_slotOnTrial
set_option maxRecDepth 20000 in
theorem ggX5_boot_X5_slotConfirmed : GoodIn wsX5_boot wsX5_slotConfirmed := goodIn_r _ [85, 8, 1, 9, 10, 11, 12, 6, 13, 14, 15, 16, 17, 18, 19, 20, 21, 22, 23, 24, 25, 26, 27, 28, 29, 30, 31, 32, 33, 34, 35, 36, 37, 38, 39, 40, 41, 42, 43, 44, 45, 46, 47, 48, 49, 50, 51, 52, 53, 54, 55, 56, 57, 58, 59, 60, 61, 62, 63, 64, 65, 66, 67, 68, 86, 74, 75, 76, 77, 78, 79, 80, 81, 116, 117, 118, 119, 120, 121, 122, 123, 124, 125, 126, 127, 128, 129, 130, 131, 132, 133] (by decide +kernel) (by decide +kernel)
set_option maxRecDepth 20000 in
theorem gX5_boot_X5_slotConfirmed : GoodIn wsX5_boot (wsV RX5 170 RX5 yX5_slotConfirmed wsX5_slotConfirmed) := goodIn_app (goodIn_of _ (by decide +kernel)) ggX5_boot_X5_slotConfirmed
set_option maxRecDepth 20000 in
theorem ggX5_boot_X5_slot : GoodIn wsX5_boot wsX5_slot := goodIn_r _ [90, 8, 9, 116, 117, 118, 119, 120, 121, 122, 123, 124] (by decide +kernel) (by decide +kernel)
set_option maxRecDepth 20000 in
theorem gX5_boot_X5_slot : GoodIn wsX5_boot (wsV RX5 155 RX5 yX5_slot wsX5_slot) := goodIn_app (goodIn_of _ (by decide +kernel)) ggX5_boot_X5_slot
set_option maxRecDepth 20000 in
theorem ggX5_boot_X3_useTrial : GoodIn wsX5_boot wsX3_useTrial := goodIn_r _ [94, 41, 95, 96, 97, 21, 98, 57, 19, 20, 22, 23, 99, 100, 101, 102, 103, 104, 105, 106, 107, 108, 109, 110, 111, 131, 132, 133, 125, 126, 127, 128, 129, 130] (by decide +kernel) (by decide +kernel)
set_option maxRecDepth 20000 in
theorem gX5_boot_X3_useTrial : GoodIn wsX5_boot (wsV RX5 173 RX3 yX3_useTrial wsX3_useTrial) := goodIn_app (goodIn_of _ (by decide +kernel)) ggX5_boot_X3_useTrial
set_option maxRecDepth 20000 in
theorem ggX5_boot_X5_unlessTorn : GoodIn wsX5_boot wsX5_unlessTorn := goodIn_r _ [115, 1, 2, 116, 117, 118, 119, 120, 121, 122, 123, 124, 125, 126, 127, 128, 129, 130] (by decide +kernel) (by decide +kernel)
set_option maxRecDepth 20000 in
theorem gX5_boot_X5_unlessTorn : GoodIn wsX5_boot (wsV RX5 110 RX5 yX5_unlessTorn wsX5_unlessTorn) := goodIn_app (goodIn_of _ (by decide +kernel)) ggX5_boot_X5_unlessTorn
theorem dX5_boot_0 : decode cX5_boot 0 = .ok (.aload_n 0, 1) := by decide +kernel
theorem dX5_boot_1 : decode cX5_boot 1 = .ok (.getfield 12, 3) := by decide +kernel
theorem dX5_boot_4 : decode cX5_boot 4 = .ok (.iconst 1, 1) := by decide +kernel
theorem dX5_boot_5 : decode cX5_boot 5 = .ok (.putfield 71, 3) := by decide +kernel
theorem dX5_boot_8 : decode cX5_boot 8 = .ok (.aload_n 0, 1) := by decide +kernel
theorem dX5_boot_9 : decode cX5_boot 9 = .ok (.aload_n 0, 1) := by decide +kernel
theorem dX5_boot_10 : decode cX5_boot 10 = .ok (.invokevirtual 167, 3) := by decide +kernel
theorem dX5_boot_13 : decode cX5_boot 13 = .ok (.putfield 49, 3) := by decide +kernel
theorem dX5_boot_16 : decode cX5_boot 16 = .ok (.aload_n 0, 1) := by decide +kernel
theorem dX5_boot_17 : decode cX5_boot 17 = .ok (.getfield 49, 3) := by decide +kernel
theorem dX5_boot_20 : decode cX5_boot 20 = .ok (.bipush (-7), 2) := by decide +kernel
theorem dX5_boot_22 : decode cX5_boot 22 = .ok (.if_icmp .ne 16, 3) := by decide +kernel
theorem dX5_boot_25 : decode cX5_boot 25 = .ok (.aload_n 0, 1) := by decide +kernel
theorem dX5_boot_26 : decode cX5_boot 26 = .ok (.aload_n 0, 1) := by decide +kernel
theorem dX5_boot_27 : decode cX5_boot 27 = .ok (.invokevirtual 170, 3) := by decide +kernel
theorem dX5_boot_30 : decode cX5_boot 30 = .ok (.putfield 49, 3) := by decide +kernel
theorem dX5_boot_33 : decode cX5_boot 33 = .ok (.aload_n 0, 1) := by decide +kernel
theorem dX5_boot_34 : decode cX5_boot 34 = .ok (.getfield 49, 3) := by decide +kernel
theorem dX5_boot_37 : decode cX5_boot 37 = .ok (.ireturn, 1) := by decide +kernel
theorem dX5_boot_38 : decode cX5_boot 38 = .ok (.aload_n 0, 1) := by decide +kernel
theorem dX5_boot_39 : decode cX5_boot 39 = .ok (.aload_n 0, 1) := by decide +kernel
theorem dX5_boot_40 : decode cX5_boot 40 = .ok (.getfield 49, 3) := by decide +kernel
theorem dX5_boot_43 : decode cX5_boot 43 = .ok (.invokevirtual 155, 3) := by decide +kernel
theorem dX5_boot_46 : decode cX5_boot 46 = .ok (.aload_n 0, 1) := by decide +kernel
theorem dX5_boot_47 : decode cX5_boot 47 = .ok (.getfield 12, 3) := by decide +kernel
theorem dX5_boot_50 : decode cX5_boot 50 = .ok (.invokevirtual 173, 3) := by decide +kernel
theorem dX5_boot_53 : decode cX5_boot 53 = .ok (.aload_n 0, 1) := by decide +kernel
theorem dX5_boot_54 : decode cX5_boot 54 = .ok (.aload_n 0, 1) := by decide +kernel
theorem dX5_boot_55 : decode cX5_boot 55 = .ok (.getfield 49, 3) := by decide +kernel
theorem dX5_boot_58 : decode cX5_boot 58 = .ok (.invokevirtual 110, 3) := by decide +kernel
theorem dX5_boot_61 : decode cX5_boot 61 = .ok (.ireturn, 1) := by decide +kernel
set_option maxRecDepth 20000 in
theorem ggX5_confirm_X5_slot : GoodIn wsX5_confirm wsX5_slot := goodIn_r _ [7, 8, 9, 73, 74, 75, 76, 77, 78, 79, 80, 81] (by decide +kernel) (by decide +kernel)
set_option maxRecDepth 20000 in
theorem gX5_confirm_X5_slot : GoodIn wsX5_confirm (wsV RX5 155 RX5 yX5_slot wsX5_slot) := goodIn_app (goodIn_of _ (by decide +kernel)) ggX5_confirm_X5_slot
set_option maxRecDepth 20000 in
theorem ggX5_confirm_X3_isConfirmed : GoodIn wsX5_confirm wsX3_isConfirmed := goodIn_r _ [14, 15, 16, 17, 18, 19, 20, 21, 88, 89, 90, 82, 83, 84, 85, 86, 87] (by decide +kernel) (by decide +kernel)
set_option maxRecDepth 20000 in
theorem gX5_confirm_X3_isConfirmed : GoodIn wsX5_confirm (wsV RX5 176 RX3 yX3_isConfirmed wsX3_isConfirmed) := goodIn_app (goodIn_of _ (by decide +kernel)) ggX5_confirm_X3_isConfirmed
set_option maxRecDepth 20000 in
theorem ggX5_confirm_X3_programConfirmed : GoodIn wsX5_confirm wsX3_programConfirmed := goodIn_r _ [25, 15, 26, 27, 28, 19, 29, 30, 31, 21, 32, 33, 34, 35, 36, 37, 38, 88, 89, 90, 82, 83, 84, 85, 86, 87] (by decide +kernel) (by decide +kernel)
set_option maxRecDepth 20000 in
theorem gX5_confirm_X3_programConfirmed : GoodIn wsX5_confirm (wsV RX5 104 RX3 yX3_programConfirmed wsX3_programConfirmed) := goodIn_app (goodIn_of _ (by decide +kernel)) ggX5_confirm_X3_programConfirmed
set_option maxRecDepth 20000 in
theorem ggX5_confirm_X3_sequence : GoodIn wsX5_confirm wsX3_sequence := goodIn_r _ [42, 15, 16, 17, 18, 19, 20, 21, 88, 89, 90, 82, 83, 84, 85, 86, 87] (by decide +kernel) (by decide +kernel)
set_option maxRecDepth 20000 in
theorem gX5_confirm_X3_sequence : GoodIn wsX5_confirm (wsV RX5 180 RX3 yX3_sequence wsX3_sequence) := goodIn_app (goodIn_of _ (by decide +kernel)) ggX5_confirm_X3_sequence
set_option maxRecDepth 20000 in
theorem ggX5_confirm_X5_raiseCounter : GoodIn wsX5_confirm wsX5_raiseCounter := goodIn_r _ [46, 47, 48, 49, 6, 50, 1, 51, 17, 18, 19, 20, 21, 52, 53, 54, 55, 56, 57, 58, 59, 60, 61, 62, 63, 64, 65, 66, 67, 68, 27, 28, 29, 30, 31, 32, 33, 34, 35, 36, 37, 38, 73, 74, 75, 76, 77, 78, 79, 80, 81, 82, 83, 84, 85, 86, 87] (by decide +kernel) (by decide +kernel)
set_option maxRecDepth 20000 in
theorem gX5_confirm_X5_raiseCounter : GoodIn wsX5_confirm (wsV RX5 183 RX5 yX5_raiseCounter wsX5_raiseCounter) := goodIn_app (goodIn_of _ (by decide +kernel)) ggX5_confirm_X5_raiseCounter
set_option maxRecDepth 20000 in
theorem ggX5_confirm_X5_unlessTorn : GoodIn wsX5_confirm wsX5_unlessTorn := goodIn_r _ [72, 1, 2, 73, 74, 75, 76, 77, 78, 79, 80, 81, 82, 83, 84, 85, 86, 87] (by decide +kernel) (by decide +kernel)
set_option maxRecDepth 20000 in
theorem gX5_confirm_X5_unlessTorn : GoodIn wsX5_confirm (wsV RX5 110 RX5 yX5_unlessTorn wsX5_unlessTorn) := goodIn_app (goodIn_of _ (by decide +kernel)) ggX5_confirm_X5_unlessTorn
theorem dX5_confirm_0 : decode cX5_confirm 0 = .ok (.aload_n 0, 1) := by decide +kernel
theorem dX5_confirm_1 : decode cX5_confirm 1 = .ok (.getfield 12, 3) := by decide +kernel
theorem dX5_confirm_4 : decode cX5_confirm 4 = .ok (.getfield 71, 3) := by decide +kernel
theorem dX5_confirm_7 : decode cX5_confirm 7 = .ok (.ifCond .ne 6, 3) := by decide +kernel
theorem dX5_confirm_10 : decode cX5_confirm 10 = .ok (.bipush (-2), 2) := by decide +kernel
theorem dX5_confirm_12 : decode cX5_confirm 12 = .ok (.ireturn, 1) := by decide +kernel
theorem dX5_confirm_13 : decode cX5_confirm 13 = .ok (.aload_n 0, 1) := by decide +kernel
theorem dX5_confirm_14 : decode cX5_confirm 14 = .ok (.getfield 49, 3) := by decide +kernel
theorem dX5_confirm_17 : decode cX5_confirm 17 = .ok (.bipush (-7), 2) := by decide +kernel
theorem dX5_confirm_19 : decode cX5_confirm 19 = .ok (.if_icmp .ne 6, 3) := by decide +kernel
theorem dX5_confirm_22 : decode cX5_confirm 22 = .ok (.bipush (-7), 2) := by decide +kernel
theorem dX5_confirm_24 : decode cX5_confirm 24 = .ok (.ireturn, 1) := by decide +kernel
theorem dX5_confirm_25 : decode cX5_confirm 25 = .ok (.aload_n 0, 1) := by decide +kernel
theorem dX5_confirm_26 : decode cX5_confirm 26 = .ok (.aload_n 0, 1) := by decide +kernel
theorem dX5_confirm_27 : decode cX5_confirm 27 = .ok (.getfield 49, 3) := by decide +kernel
theorem dX5_confirm_30 : decode cX5_confirm 30 = .ok (.invokevirtual 155, 3) := by decide +kernel
theorem dX5_confirm_33 : decode cX5_confirm 33 = .ok (.astore_n 1, 1) := by decide +kernel
theorem dX5_confirm_34 : decode cX5_confirm 34 = .ok (.aload_n 1, 1) := by decide +kernel
theorem dX5_confirm_35 : decode cX5_confirm 35 = .ok (.aload_n 0, 1) := by decide +kernel
theorem dX5_confirm_36 : decode cX5_confirm 36 = .ok (.getfield 12, 3) := by decide +kernel
theorem dX5_confirm_39 : decode cX5_confirm 39 = .ok (.invokevirtual 176, 3) := by decide +kernel
theorem dX5_confirm_42 : decode cX5_confirm 42 = .ok (.ifCond .eq 5, 3) := by decide +kernel
theorem dX5_confirm_45 : decode cX5_confirm 45 = .ok (.iconst 0, 1) := by decide +kernel
theorem dX5_confirm_46 : decode cX5_confirm 46 = .ok (.ireturn, 1) := by decide +kernel
theorem dX5_confirm_47 : decode cX5_confirm 47 = .ok (.aload_n 1, 1) := by decide +kernel
theorem dX5_confirm_48 : decode cX5_confirm 48 = .ok (.aload_n 0, 1) := by decide +kernel
theorem dX5_confirm_49 : decode cX5_confirm 49 = .ok (.getfield 12, 3) := by decide +kernel
theorem dX5_confirm_52 : decode cX5_confirm 52 = .ok (.invokevirtual 104, 3) := by decide +kernel
theorem dX5_confirm_55 : decode cX5_confirm 55 = .ok (.aload_n 0, 1) := by decide +kernel
theorem dX5_confirm_56 : decode cX5_confirm 56 = .ok (.aload_n 1, 1) := by decide +kernel
theorem dX5_confirm_57 : decode cX5_confirm 57 = .ok (.aload_n 0, 1) := by decide +kernel
theorem dX5_confirm_58 : decode cX5_confirm 58 = .ok (.getfield 12, 3) := by decide +kernel
theorem dX5_confirm_61 : decode cX5_confirm 61 = .ok (.invokevirtual 180, 3) := by decide +kernel
theorem dX5_confirm_64 : decode cX5_confirm 64 = .ok (.invokevirtual 183, 3) := by decide +kernel
theorem dX5_confirm_67 : decode cX5_confirm 67 = .ok (.aload_n 0, 1) := by decide +kernel
theorem dX5_confirm_68 : decode cX5_confirm 68 = .ok (.iconst 1, 1) := by decide +kernel
theorem dX5_confirm_69 : decode cX5_confirm 69 = .ok (.invokevirtual 110, 3) := by decide +kernel
theorem dX5_confirm_72 : decode cX5_confirm 72 = .ok (.ireturn, 1) := by decide +kernel
set_option maxRecDepth 20000 in
theorem ggX5_crash_X0_setCrash : GoodIn wsX5_crash wsX0_setCrash := goodIn_r _ [6, 7, 8, 9, 19, 20, 21, 22, 23, 24] (by decide +kernel) (by decide +kernel)
set_option maxRecDepth 20000 in
theorem gX5_crash_X0_setCrash : GoodIn wsX5_crash (wsV RX5 186 RX0 yX0_setCrash wsX0_setCrash) := goodIn_app (goodIn_of _ (by decide +kernel)) ggX5_crash_X0_setCrash
theorem dX5_crash_0 : decode cX5_crash 0 = .ok (.iload_n 2, 1) := by decide +kernel
theorem dX5_crash_1 : decode cX5_crash 1 = .ok (.ifCond .lt 10, 3) := by decide +kernel
theorem dX5_crash_4 : decode cX5_crash 4 = .ok (.iload_n 2, 1) := by decide +kernel
theorem dX5_crash_5 : decode cX5_crash 5 = .ok (.sipush 255, 3) := by decide +kernel
theorem dX5_crash_8 : decode cX5_crash 8 = .ok (.if_icmp .le 5, 3) := by decide +kernel
theorem dX5_crash_11 : decode cX5_crash 11 = .ok (.iconst (-1), 1) := by decide +kernel
theorem dX5_crash_12 : decode cX5_crash 12 = .ok (.ireturn, 1) := by decide +kernel
theorem dX5_crash_13 : decode cX5_crash 13 = .ok (.aload_n 0, 1) := by decide +kernel
theorem dX5_crash_14 : decode cX5_crash 14 = .ok (.getfield 12, 3) := by decide +kernel
theorem dX5_crash_17 : decode cX5_crash 17 = .ok (.iload_n 1, 1) := by decide +kernel
theorem dX5_crash_18 : decode cX5_crash 18 = .ok (.iload_n 2, 1) := by decide +kernel
theorem dX5_crash_19 : decode cX5_crash 19 = .ok (.invokevirtual 186, 3) := by decide +kernel
theorem dX5_crash_22 : decode cX5_crash 22 = .ok (.iconst 1, 1) := by decide +kernel
theorem dX5_crash_23 : decode cX5_crash 23 = .ok (.ireturn, 1) := by decide +kernel
theorem dX5_running_0 : decode cX5_running 0 = .ok (.aload_n 0, 1) := by decide +kernel
theorem dX5_running_1 : decode cX5_running 1 = .ok (.getfield 49, 3) := by decide +kernel
theorem dX5_running_4 : decode cX5_running 4 = .ok (.ireturn, 1) := by decide +kernel
set_option maxRecDepth 20000 in
theorem ggX5_counter_X0_at : GoodIn wsX5_counter wsX0_at := goodIn_r _ [6, 7, 24, 25, 26, 27, 28, 29] (by decide +kernel) (by decide +kernel)
set_option maxRecDepth 20000 in
theorem gX5_counter_X0_at : GoodIn wsX5_counter (wsV RX5 189 RX0 yX0_at wsX0_at) := goodIn_app (goodIn_of _ (by decide +kernel)) ggX5_counter_X0_at
set_option maxRecDepth 20000 in
theorem ggX5_counter_J6_bitCount_0f7a4 : GoodIn wsX5_counter wsJ6_bitCount_0f7a4 := goodIn_r _ [11, 12, 13, 14] (by decide +kernel) (by decide +kernel)
set_option maxRecDepth 20000 in
theorem gX5_counter_J6_bitCount_0f7a4 : GoodIn wsX5_counter (va_wsS RX5 192 yJ6_bitCount_0f7a4 wsJ6_bitCount_0f7a4) := goodIn_app (goodIn_of _ (by decide +kernel)) ggX5_counter_J6_bitCount_0f7a4
theorem dX5_counter_0 : decode cX5_counter 0 = .ok (.iconst 0, 1) := by decide +kernel
theorem dX5_counter_1 : decode cX5_counter 1 = .ok (.istore_n 1, 1) := by decide +kernel
theorem dX5_counter_2 : decode cX5_counter 2 = .ok (.iconst 0, 1) := by decide +kernel
theorem dX5_counter_3 : decode cX5_counter 3 = .ok (.istore_n 2, 1) := by decide +kernel
theorem dX5_counter_4 : decode cX5_counter 4 = .ok (.iload_n 2, 1) := by decide +kernel
theorem dX5_counter_5 : decode cX5_counter 5 = .ok (.bipush 32, 2) := by decide +kernel
theorem dX5_counter_7 : decode cX5_counter 7 = .ok (.if_icmp .ge 30, 3) := by decide +kernel
theorem dX5_counter_10 : decode cX5_counter 10 = .ok (.iload_n 1, 1) := by decide +kernel
theorem dX5_counter_11 : decode cX5_counter 11 = .ok (.bipush 8, 2) := by decide +kernel
theorem dX5_counter_13 : decode cX5_counter 13 = .ok (.aload_n 0, 1) := by decide +kernel
theorem dX5_counter_14 : decode cX5_counter 14 = .ok (.getfield 12, 3) := by decide +kernel
theorem dX5_counter_17 : decode cX5_counter 17 = .ok (.sipush 704, 3) := by decide +kernel
theorem dX5_counter_20 : decode cX5_counter 20 = .ok (.iload_n 2, 1) := by decide +kernel
theorem dX5_counter_21 : decode cX5_counter 21 = .ok (.iadd, 1) := by decide +kernel
theorem dX5_counter_22 : decode cX5_counter 22 = .ok (.invokevirtual 189, 3) := by decide +kernel
theorem dX5_counter_25 : decode cX5_counter 25 = .ok (.invokestatic 192, 3) := by decide +kernel
theorem dX5_counter_28 : decode cX5_counter 28 = .ok (.isub, 1) := by decide +kernel
theorem dX5_counter_29 : decode cX5_counter 29 = .ok (.iadd, 1) := by decide +kernel
theorem dX5_counter_30 : decode cX5_counter 30 = .ok (.istore_n 1, 1) := by decide +kernel
theorem dX5_counter_31 : decode cX5_counter 31 = .ok (.iinc 2 1, 3) := by decide +kernel
theorem dX5_counter_34 : decode cX5_counter 34 = .ok (.goto (-30), 3) := by decide +kernel
theorem dX5_counter_37 : decode cX5_counter 37 = .ok (.iload_n 1, 1) := by decide +kernel
theorem dX5_counter_38 : decode cX5_counter 38 = .ok (.ireturn, 1) := by decide +kernel
theorem dX5_acts_0 : decode cX5_acts 0 = .ok (.aload_n 0, 1) := by decide +kernel
theorem dX5_acts_1 : decode cX5_acts 1 = .ok (.getfield 12, 3) := by decide +kernel
theorem dX5_acts_4 : decode cX5_acts 4 = .ok (.getfield 197, 3) := by decide +kernel
theorem dX5_acts_7 : decode cX5_acts 7 = .ok (.ireturn, 1) := by decide +kernel
set_option maxRecDepth 20000 in
theorem ggX5_byteOf_X0_at : GoodIn wsX5_byteOf wsX0_at := goodIn_r _ [6, 7, 17, 18, 19, 20, 21, 22] (by decide +kernel) (by decide +kernel)
set_option maxRecDepth 20000 in
theorem gX5_byteOf_X0_at : GoodIn wsX5_byteOf (wsV RX5 189 RX0 yX0_at wsX0_at) := goodIn_app (goodIn_of _ (by decide +kernel)) ggX5_byteOf_X0_at
theorem dX5_byteOf_0 : decode cX5_byteOf 0 = .ok (.aload_n 0, 1) := by decide +kernel
theorem dX5_byteOf_1 : decode cX5_byteOf 1 = .ok (.getfield 12, 3) := by decide +kernel
theorem dX5_byteOf_4 : decode cX5_byteOf 4 = .ok (.iload_n 1, 1) := by decide +kernel
theorem dX5_byteOf_5 : decode cX5_byteOf 5 = .ok (.invokevirtual 189, 3) := by decide +kernel
theorem dX5_byteOf_8 : decode cX5_byteOf 8 = .ok (.ireturn, 1) := by decide +kernel
set_option maxRecDepth 20000 in
theorem ggX5_good_X5_slot : GoodIn wsX5_good wsX5_slot := goodIn_r _ [5, 6, 7, 68, 69, 70, 71, 72, 73, 74, 75, 76] (by decide +kernel) (by decide +kernel)
set_option maxRecDepth 20000 in
theorem gX5_good_X5_slot : GoodIn wsX5_good (wsV RX5 155 RX5 yX5_slot wsX5_slot) := goodIn_app (goodIn_of _ (by decide +kernel)) ggX5_good_X5_slot
set_option maxRecDepth 20000 in
theorem ggX5_good_X5_isGood : GoodIn wsX5_good wsX5_isGood := goodIn_r _ [11, 12, 13, 14, 15, 4, 16, 17, 18, 19, 20, 21, 22, 23, 24, 25, 26, 27, 28, 29, 30, 31, 32, 33, 34, 35, 36, 37, 38, 39, 40, 41, 42, 43, 44, 45, 46, 47, 48, 49, 50, 51, 52, 53, 54, 55, 56, 57, 58, 59, 60, 61, 62, 63, 64, 65, 66, 67, 68, 69, 70, 71, 72, 73, 74, 75, 76, 77, 78, 79, 80, 81, 82, 83, 84, 85] (by decide +kernel) (by decide +kernel)
set_option maxRecDepth 20000 in
theorem gX5_good_X5_isGood : GoodIn wsX5_good (wsV RX5 200 RX5 yX5_isGood wsX5_isGood) := goodIn_app (goodIn_of _ (by decide +kernel)) ggX5_good_X5_isGood
theorem dX5_good_0 : decode cX5_good 0 = .ok (.iload_n 1, 1) := by decide +kernel
theorem dX5_good_1 : decode cX5_good 1 = .ok (.ifCond .eq 10, 3) := by decide +kernel
theorem dX5_good_4 : decode cX5_good 4 = .ok (.iload_n 1, 1) := by decide +kernel
theorem dX5_good_5 : decode cX5_good 5 = .ok (.iconst 1, 1) := by decide +kernel
theorem dX5_good_6 : decode cX5_good 6 = .ok (.if_icmp .eq 5, 3) := by decide +kernel
theorem dX5_good_9 : decode cX5_good 9 = .ok (.iconst (-1), 1) := by decide +kernel
theorem dX5_good_10 : decode cX5_good 10 = .ok (.ireturn, 1) := by decide +kernel
theorem dX5_good_11 : decode cX5_good 11 = .ok (.aload_n 0, 1) := by decide +kernel
theorem dX5_good_12 : decode cX5_good 12 = .ok (.aload_n 0, 1) := by decide +kernel
theorem dX5_good_13 : decode cX5_good 13 = .ok (.iload_n 1, 1) := by decide +kernel
theorem dX5_good_14 : decode cX5_good 14 = .ok (.invokevirtual 155, 3) := by decide +kernel
theorem dX5_good_17 : decode cX5_good 17 = .ok (.invokevirtual 200, 3) := by decide +kernel
theorem dX5_good_20 : decode cX5_good 20 = .ok (.ifCond .eq 7, 3) := by decide +kernel
theorem dX5_good_23 : decode cX5_good 23 = .ok (.iconst 1, 1) := by decide +kernel
theorem dX5_good_24 : decode cX5_good 24 = .ok (.goto 4, 3) := by decide +kernel
theorem dX5_good_27 : decode cX5_good 27 = .ok (.iconst 0, 1) := by decide +kernel
theorem dX5_good_28 : decode cX5_good 28 = .ok (.ireturn, 1) := by decide +kernel
theorem dX5_slot_0 : decode cX5_slot 0 = .ok (.iload_n 1, 1) := by decide +kernel
theorem dX5_slot_1 : decode cX5_slot 1 = .ok (.ifCond .ne 10, 3) := by decide +kernel
theorem dX5_slot_4 : decode cX5_slot 4 = .ok (.aload_n 0, 1) := by decide +kernel
theorem dX5_slot_5 : decode cX5_slot 5 = .ok (.getfield 28, 3) := by decide +kernel
theorem dX5_slot_8 : decode cX5_slot 8 = .ok (.goto 7, 3) := by decide +kernel
theorem dX5_slot_11 : decode cX5_slot 11 = .ok (.aload_n 0, 1) := by decide +kernel
theorem dX5_slot_12 : decode cX5_slot 12 = .ok (.getfield 32, 3) := by decide +kernel
theorem dX5_slot_15 : decode cX5_slot 15 = .ok (.areturn, 1) := by decide +kernel
theorem dX5_unlessTorn_0 : decode cX5_unlessTorn 0 = .ok (.aload_n 0, 1) := by decide +kernel
theorem dX5_unlessTorn_1 : decode cX5_unlessTorn 1 = .ok (.getfield 12, 3) := by decide +kernel
theorem dX5_unlessTorn_4 : decode cX5_unlessTorn 4 = .ok (.getfield 71, 3) := by decide +kernel
theorem dX5_unlessTorn_7 : decode cX5_unlessTorn 7 = .ok (.ifCond .eq 5, 3) := by decide +kernel
theorem dX5_unlessTorn_10 : decode cX5_unlessTorn 10 = .ok (.iload_n 1, 1) := by decide +kernel
theorem dX5_unlessTorn_11 : decode cX5_unlessTorn 11 = .ok (.ireturn, 1) := by decide +kernel
theorem dX5_unlessTorn_12 : decode cX5_unlessTorn 12 = .ok (.aload_n 0, 1) := by decide +kernel
theorem dX5_unlessTorn_13 : decode cX5_unlessTorn 13 = .ok (.bipush (-7), 2) := by decide +kernel
theorem dX5_unlessTorn_15 : decode cX5_unlessTorn 15 = .ok (.putfield 49, 3) := by decide +kernel
theorem dX5_unlessTorn_18 : decode cX5_unlessTorn 18 = .ok (.bipush (-2), 2) := by decide +kernel
theorem dX5_unlessTorn_20 : decode cX5_unlessTorn 20 = .ok (.ireturn, 1) := by decide +kernel
theorem dX5_isSequence_0 : decode cX5_isSequence 0 = .ok (.iload_n 0, 1) := by decide +kernel
theorem dX5_isSequence_1 : decode cX5_isSequence 1 = .ok (.iconst 1, 1) := by decide +kernel
theorem dX5_isSequence_2 : decode cX5_isSequence 2 = .ok (.if_icmp .lt 14, 3) := by decide +kernel
theorem dX5_isSequence_5 : decode cX5_isSequence 5 = .ok (.iload_n 0, 1) := by decide +kernel
theorem dX5_isSequence_6 : decode cX5_isSequence 6 = .ok (.sipush 200, 3) := by decide +kernel
theorem dX5_isSequence_9 : decode cX5_isSequence 9 = .ok (.if_icmp .gt 7, 3) := by decide +kernel
theorem dX5_isSequence_12 : decode cX5_isSequence 12 = .ok (.iconst 1, 1) := by decide +kernel
theorem dX5_isSequence_13 : decode cX5_isSequence 13 = .ok (.goto 4, 3) := by decide +kernel
theorem dX5_isSequence_16 : decode cX5_isSequence 16 = .ok (.iconst 0, 1) := by decide +kernel
theorem dX5_isSequence_17 : decode cX5_isSequence 17 = .ok (.ireturn, 1) := by decide +kernel
theorem dX5_isLength_0 : decode cX5_isLength 0 = .ok (.iload_n 0, 1) := by decide +kernel
theorem dX5_isLength_1 : decode cX5_isLength 1 = .ok (.iconst 1, 1) := by decide +kernel
theorem dX5_isLength_2 : decode cX5_isLength 2 = .ok (.if_icmp .lt 14, 3) := by decide +kernel
theorem dX5_isLength_5 : decode cX5_isLength 5 = .ok (.iload_n 0, 1) := by decide +kernel
theorem dX5_isLength_6 : decode cX5_isLength 6 = .ok (.sipush 192, 3) := by decide +kernel
theorem dX5_isLength_9 : decode cX5_isLength 9 = .ok (.if_icmp .gt 7, 3) := by decide +kernel
theorem dX5_isLength_12 : decode cX5_isLength 12 = .ok (.iconst 1, 1) := by decide +kernel
theorem dX5_isLength_13 : decode cX5_isLength 13 = .ok (.goto 4, 3) := by decide +kernel
theorem dX5_isLength_16 : decode cX5_isLength 16 = .ok (.iconst 0, 1) := by decide +kernel
theorem dX5_isLength_17 : decode cX5_isLength 17 = .ok (.ireturn, 1) := by decide +kernel
set_option maxRecDepth 20000 in
theorem ggX5_judgeTape_X1_readTape : GoodIn wsX5_judgeTape wsX1_readTape := goodIn_r _ [8, 9, 10, 11, 12, 13, 109, 110, 111] (by decide +kernel) (by decide +kernel)
set_option maxRecDepth 20000 in
theorem gX5_judgeTape_X1_readTape : GoodIn wsX5_judgeTape (wsV RX5 203 RX1 yX1_readTape wsX1_readTape) := goodIn_app (goodIn_of _ (by decide +kernel)) ggX5_judgeTape_X1_readTape
set_option maxRecDepth 20000 in
theorem ggX5_judgeTape_X1_isInRange : GoodIn wsX5_judgeTape wsX1_isInRange := goodIn_r _ [17, 18, 19, 20, 7, 21, 9, 22, 23, 24, 25, 26, 27, 28, 29, 30, 31, 32, 33, 34, 111] (by decide +kernel) (by decide +kernel)
set_option maxRecDepth 20000 in
theorem gX5_judgeTape_X1_isInRange : GoodIn wsX5_judgeTape (wsV RX5 207 RX1 yX1_isInRange wsX1_isInRange) := goodIn_app (goodIn_of _ (by decide +kernel)) ggX5_judgeTape_X1_isInRange
set_option maxRecDepth 20000 in
theorem ggX5_judgeTape_X5_isOurs : GoodIn wsX5_judgeTape wsX5_isOurs := goodIn_r _ [38, 2, 39, 40, 41, 42, 43, 7, 44, 9, 45, 23, 46, 47, 48, 49, 50, 51, 52, 53, 54, 55, 56, 57, 58, 100, 101, 102, 103, 104, 105, 106, 107, 108, 111] (by decide +kernel) (by decide +kernel)
set_option maxRecDepth 20000 in
theorem gX5_judgeTape_X5_isOurs : GoodIn wsX5_judgeTape (wsV RX5 210 RX5 yX5_isOurs wsX5_isOurs) := goodIn_app (goodIn_of _ (by decide +kernel)) ggX5_judgeTape_X5_isOurs
set_option maxRecDepth 20000 in
theorem ggX5_judgeTape_X1_sequence : GoodIn wsX5_judgeTape wsX1_sequence := goodIn_r _ [21, 9, 111] (by decide +kernel) (by decide +kernel)
set_option maxRecDepth 20000 in
theorem gX5_judgeTape_X1_sequence : GoodIn wsX5_judgeTape (wsV RX5 146 RX1 yX1_sequence wsX1_sequence) := goodIn_app (goodIn_of _ (by decide +kernel)) ggX5_judgeTape_X1_sequence
set_option maxRecDepth 20000 in
theorem ggX5_judgeTape_X5_isOld : GoodIn wsX5_judgeTape wsX5_isOld := goodIn_r _ [63, 64, 3, 65, 66, 67, 23, 68, 69, 70, 71, 72, 73, 74, 75, 76, 77, 78, 79, 80, 81, 82, 83, 84, 85, 86, 87, 88, 89, 90, 91, 92, 93, 94, 100, 101, 102, 103, 104, 105, 106, 107, 108, 112, 113, 114, 115, 116, 117, 118, 119, 120] (by decide +kernel) (by decide +kernel)
set_option maxRecDepth 20000 in
theorem gX5_judgeTape_X5_isOld : GoodIn wsX5_judgeTape (wsV RX5 149 RX5 yX5_isOld wsX5_isOld) := goodIn_app (goodIn_of _ (by decide +kernel)) ggX5_judgeTape_X5_isOld
set_option maxRecDepth 20000 in
theorem ggX5_judgeTape_X1_standsIn : GoodIn wsX5_judgeTape wsX1_standsIn := goodIn_r _ [98, 9, 99, 70, 71, 72, 73, 74, 111, 112, 113, 114, 115, 116, 117] (by decide +kernel) (by decide +kernel)
set_option maxRecDepth 20000 in
theorem gX5_judgeTape_X1_standsIn : GoodIn wsX5_judgeTape (wsV RX5 213 RX1 yX1_standsIn wsX1_standsIn) := goodIn_app (goodIn_of _ (by decide +kernel)) ggX5_judgeTape_X1_standsIn
theorem dX5_judgeTape_0 : decode cX5_judgeTape 0 = .ok (.aload_n 0, 1) := by decide +kernel
theorem dX5_judgeTape_1 : decode cX5_judgeTape 1 = .ok (.getfield 19, 3) := by decide +kernel
theorem dX5_judgeTape_4 : decode cX5_judgeTape 4 = .ok (.getfield 68, 3) := by decide +kernel
theorem dX5_judgeTape_7 : decode cX5_judgeTape 7 = .ok (.bipush 20, 2) := by decide +kernel
theorem dX5_judgeTape_9 : decode cX5_judgeTape 9 = .ok (.if_icmp .eq 5, 3) := by decide +kernel
theorem dX5_judgeTape_12 : decode cX5_judgeTape 12 = .ok (.iconst (-1), 1) := by decide +kernel
theorem dX5_judgeTape_13 : decode cX5_judgeTape 13 = .ok (.ireturn, 1) := by decide +kernel
theorem dX5_judgeTape_14 : decode cX5_judgeTape 14 = .ok (.aload_n 0, 1) := by decide +kernel
theorem dX5_judgeTape_15 : decode cX5_judgeTape 15 = .ok (.getfield 38, 3) := by decide +kernel
theorem dX5_judgeTape_18 : decode cX5_judgeTape 18 = .ok (.aload_n 0, 1) := by decide +kernel
theorem dX5_judgeTape_19 : decode cX5_judgeTape 19 = .ok (.getfield 19, 3) := by decide +kernel
theorem dX5_judgeTape_22 : decode cX5_judgeTape 22 = .ok (.invokevirtual 203, 3) := by decide +kernel
theorem dX5_judgeTape_25 : decode cX5_judgeTape 25 = .ok (.aload_n 0, 1) := by decide +kernel
theorem dX5_judgeTape_26 : decode cX5_judgeTape 26 = .ok (.getfield 38, 3) := by decide +kernel
theorem dX5_judgeTape_29 : decode cX5_judgeTape 29 = .ok (.invokevirtual 207, 3) := by decide +kernel
theorem dX5_judgeTape_32 : decode cX5_judgeTape 32 = .ok (.ifCond .ne 5, 3) := by decide +kernel
theorem dX5_judgeTape_35 : decode cX5_judgeTape 35 = .ok (.iconst (-1), 1) := by decide +kernel
theorem dX5_judgeTape_36 : decode cX5_judgeTape 36 = .ok (.ireturn, 1) := by decide +kernel
theorem dX5_judgeTape_37 : decode cX5_judgeTape 37 = .ok (.aload_n 0, 1) := by decide +kernel
theorem dX5_judgeTape_38 : decode cX5_judgeTape 38 = .ok (.invokevirtual 210, 3) := by decide +kernel
theorem dX5_judgeTape_41 : decode cX5_judgeTape 41 = .ok (.ifCond .ne 6, 3) := by decide +kernel
theorem dX5_judgeTape_44 : decode cX5_judgeTape 44 = .ok (.bipush (-4), 2) := by decide +kernel
theorem dX5_judgeTape_46 : decode cX5_judgeTape 46 = .ok (.ireturn, 1) := by decide +kernel
theorem dX5_judgeTape_47 : decode cX5_judgeTape 47 = .ok (.aload_n 0, 1) := by decide +kernel
theorem dX5_judgeTape_48 : decode cX5_judgeTape 48 = .ok (.aload_n 0, 1) := by decide +kernel
theorem dX5_judgeTape_49 : decode cX5_judgeTape 49 = .ok (.getfield 38, 3) := by decide +kernel
theorem dX5_judgeTape_52 : decode cX5_judgeTape 52 = .ok (.invokevirtual 146, 3) := by decide +kernel
theorem dX5_judgeTape_55 : decode cX5_judgeTape 55 = .ok (.invokevirtual 149, 3) := by decide +kernel
theorem dX5_judgeTape_58 : decode cX5_judgeTape 58 = .ok (.ifCond .eq 6, 3) := by decide +kernel
theorem dX5_judgeTape_61 : decode cX5_judgeTape 61 = .ok (.bipush (-3), 2) := by decide +kernel
theorem dX5_judgeTape_63 : decode cX5_judgeTape 63 = .ok (.ireturn, 1) := by decide +kernel
theorem dX5_judgeTape_64 : decode cX5_judgeTape 64 = .ok (.aload_n 0, 1) := by decide +kernel
theorem dX5_judgeTape_65 : decode cX5_judgeTape 65 = .ok (.getfield 38, 3) := by decide +kernel
theorem dX5_judgeTape_68 : decode cX5_judgeTape 68 = .ok (.aload_n 0, 1) := by decide +kernel
theorem dX5_judgeTape_69 : decode cX5_judgeTape 69 = .ok (.getfield 12, 3) := by decide +kernel
theorem dX5_judgeTape_72 : decode cX5_judgeTape 72 = .ok (.invokevirtual 213, 3) := by decide +kernel
theorem dX5_judgeTape_75 : decode cX5_judgeTape 75 = .ok (.ifCond .eq 7, 3) := by decide +kernel
theorem dX5_judgeTape_78 : decode cX5_judgeTape 78 = .ok (.iconst 1, 1) := by decide +kernel
theorem dX5_judgeTape_79 : decode cX5_judgeTape 79 = .ok (.goto 4, 3) := by decide +kernel
theorem dX5_judgeTape_82 : decode cX5_judgeTape 82 = .ok (.iconst 0, 1) := by decide +kernel
theorem dX5_judgeTape_83 : decode cX5_judgeTape 83 = .ok (.ireturn, 1) := by decide +kernel
set_option maxRecDepth 20000 in
theorem ggX5_isOurs_X1_isTagged : GoodIn wsX5_isOurs wsX1_isTagged := goodIn_r _ [8, 9, 10, 11, 12, 13, 14, 15, 16, 17, 18, 19, 7, 20, 34] (by decide +kernel) (by decide +kernel)
set_option maxRecDepth 20000 in
theorem gX5_isOurs_X1_isTagged : GoodIn wsX5_isOurs (wsV RX5 216 RX1 yX1_isTagged wsX1_isTagged) := goodIn_app (goodIn_of _ (by decide +kernel)) ggX5_isOurs_X1_isTagged
set_option maxRecDepth 20000 in
theorem ggX5_isOurs_X1_vendor : GoodIn wsX5_isOurs wsX1_vendor := goodIn_r _ [24, 9, 34] (by decide +kernel) (by decide +kernel)
set_option maxRecDepth 20000 in
theorem gX5_isOurs_X1_vendor : GoodIn wsX5_isOurs (wsV RX5 220 RX1 yX1_vendor wsX1_vendor) := goodIn_app (goodIn_of _ (by decide +kernel)) ggX5_isOurs_X1_vendor
theorem dX5_isOurs_0 : decode cX5_isOurs 0 = .ok (.aload_n 0, 1) := by decide +kernel
theorem dX5_isOurs_1 : decode cX5_isOurs 1 = .ok (.getfield 38, 3) := by decide +kernel
theorem dX5_isOurs_4 : decode cX5_isOurs 4 = .ok (.aload_n 0, 1) := by decide +kernel
theorem dX5_isOurs_5 : decode cX5_isOurs 5 = .ok (.getfield 57, 3) := by decide +kernel
theorem dX5_isOurs_8 : decode cX5_isOurs 8 = .ok (.invokevirtual 216, 3) := by decide +kernel
theorem dX5_isOurs_11 : decode cX5_isOurs 11 = .ok (.ifCond .eq 21, 3) := by decide +kernel
theorem dX5_isOurs_14 : decode cX5_isOurs 14 = .ok (.aload_n 0, 1) := by decide +kernel
end
section
theorem dX5_isOurs_15 : decode cX5_isOurs 15 = .ok (.getfield 38, 3) := by decide +kernel
theorem dX5_isOurs_18 : decode cX5_isOurs 18 = .ok (.invokevirtual 220, 3) := by decide +kernel
theorem dX5_isOurs_21 : decode cX5_isOurs 21 = .ok (.aload_n 0, 1) := by decide +kernel
theorem dX5_isOurs_22 : decode cX5_isOurs 22 = .ok (.getfield 61, 3) := by decide +kernel
theorem dX5_isOurs_25 : decode cX5_isOurs 25 = .ok (.if_icmp .ne 7, 3) := by decide +kernel
theorem dX5_isOurs_28 : decode cX5_isOurs 28 = .ok (.iconst 1, 1) := by decide +kernel
theorem dX5_isOurs_29 : decode cX5_isOurs 29 = .ok (.goto 4, 3) := by decide +kernel
theorem dX5_isOurs_32 : decode cX5_isOurs 32 = .ok (.iconst 0, 1) := by decide +kernel
theorem dX5_isOurs_33 : decode cX5_isOurs 33 = .ok (.ireturn, 1) := by decide +kernel
set_option maxRecDepth 20000 in
theorem ggX5_isOld_X5_counter : GoodIn wsX5_isOld wsX5_counter := goodIn_r _ [7, 2, 8, 9, 10, 11, 12, 13, 14, 15, 16, 17, 18, 19, 20, 34, 35, 36, 37, 38, 39, 40, 41, 42, 43, 44, 45, 46, 47, 48] (by decide +kernel) (by decide +kernel)
set_option maxRecDepth 20000 in
theorem gX5_isOld_X5_counter : GoodIn wsX5_isOld (wsV RX5 223 RX5 yX5_counter wsX5_counter) := goodIn_app (goodIn_of _ (by decide +kernel)) ggX5_isOld_X5_counter
set_option maxRecDepth 20000 in
theorem ggX5_isOld_X5_slot : GoodIn wsX5_isOld wsX5_slot := goodIn_r _ [24, 25, 26, 34, 35, 36, 37, 38, 39, 40, 41, 42] (by decide +kernel) (by decide +kernel)
set_option maxRecDepth 20000 in
theorem gX5_isOld_X5_slot : GoodIn wsX5_isOld (wsV RX5 155 RX5 yX5_slot wsX5_slot) := goodIn_app (goodIn_of _ (by decide +kernel)) ggX5_isOld_X5_slot
set_option maxRecDepth 20000 in
theorem ggX5_isOld_X3_sequence : GoodIn wsX5_isOld wsX3_sequence := goodIn_r _ [31, 32, 33, 9, 10, 11, 12, 13, 49, 50, 51, 43, 44, 45, 46, 47, 48] (by decide +kernel) (by decide +kernel)
set_option maxRecDepth 20000 in
theorem gX5_isOld_X3_sequence : GoodIn wsX5_isOld (wsV RX5 180 RX3 yX3_sequence wsX3_sequence) := goodIn_app (goodIn_of _ (by decide +kernel)) ggX5_isOld_X3_sequence
theorem dX5_isOld_0 : decode cX5_isOld 0 = .ok (.iload_n 1, 1) := by decide +kernel
theorem dX5_isOld_1 : decode cX5_isOld 1 = .ok (.aload_n 0, 1) := by decide +kernel
theorem dX5_isOld_2 : decode cX5_isOld 2 = .ok (.invokevirtual 223, 3) := by decide +kernel
theorem dX5_isOld_5 : decode cX5_isOld 5 = .ok (.if_icmp .le 31, 3) := by decide +kernel
theorem dX5_isOld_8 : decode cX5_isOld 8 = .ok (.aload_n 0, 1) := by decide +kernel
theorem dX5_isOld_9 : decode cX5_isOld 9 = .ok (.getfield 49, 3) := by decide +kernel
theorem dX5_isOld_12 : decode cX5_isOld 12 = .ok (.bipush (-7), 2) := by decide +kernel
theorem dX5_isOld_14 : decode cX5_isOld 14 = .ok (.if_icmp .eq 22, 3) := by decide +kernel
theorem dX5_isOld_17 : decode cX5_isOld 17 = .ok (.aload_n 0, 1) := by decide +kernel
theorem dX5_isOld_18 : decode cX5_isOld 18 = .ok (.aload_n 0, 1) := by decide +kernel
theorem dX5_isOld_19 : decode cX5_isOld 19 = .ok (.getfield 49, 3) := by decide +kernel
theorem dX5_isOld_22 : decode cX5_isOld 22 = .ok (.invokevirtual 155, 3) := by decide +kernel
theorem dX5_isOld_25 : decode cX5_isOld 25 = .ok (.aload_n 0, 1) := by decide +kernel
theorem dX5_isOld_26 : decode cX5_isOld 26 = .ok (.getfield 12, 3) := by decide +kernel
theorem dX5_isOld_29 : decode cX5_isOld 29 = .ok (.invokevirtual 180, 3) := by decide +kernel
theorem dX5_isOld_32 : decode cX5_isOld 32 = .ok (.iload_n 1, 1) := by decide +kernel
theorem dX5_isOld_33 : decode cX5_isOld 33 = .ok (.if_icmp .lt 7, 3) := by decide +kernel
theorem dX5_isOld_36 : decode cX5_isOld 36 = .ok (.iconst 1, 1) := by decide +kernel
theorem dX5_isOld_37 : decode cX5_isOld 37 = .ok (.goto 4, 3) := by decide +kernel
theorem dX5_isOld_40 : decode cX5_isOld 40 = .ok (.iconst 0, 1) := by decide +kernel
theorem dX5_isOld_41 : decode cX5_isOld 41 = .ok (.ireturn, 1) := by decide +kernel
set_option maxRecDepth 20000 in
theorem ggX5_stageAnew_X0_erase : GoodIn wsX5_stageAnew wsX0_erase := goodIn_r _ [7, 8, 9, 10, 11, 12, 13, 6, 14, 15, 16, 17, 36, 37, 38, 39, 40, 41] (by decide +kernel) (by decide +kernel)
set_option maxRecDepth 20000 in
theorem gX5_stageAnew_X0_erase : GoodIn wsX5_stageAnew (wsV RX5 86 RX0 yX0_erase wsX0_erase) := goodIn_app (goodIn_of _ (by decide +kernel)) ggX5_stageAnew_X0_erase
set_option maxRecDepth 20000 in
theorem ggX5_stageAnew_X0_programRow : GoodIn wsX5_stageAnew wsX0_programRow := goodIn_r _ [21, 22, 23, 24, 6, 25, 8, 9, 10, 11, 12, 13, 14, 15, 16, 17, 36, 37, 38, 39, 40, 41] (by decide +kernel) (by decide +kernel)
set_option maxRecDepth 20000 in
theorem gX5_stageAnew_X0_programRow : GoodIn wsX5_stageAnew (wsV RX5 138 RX0 yX0_programRow wsX0_programRow) := goodIn_app (goodIn_of _ (by decide +kernel)) ggX5_stageAnew_X0_programRow
theorem dX5_stageAnew_0 : decode cX5_stageAnew 0 = .ok (.aload_n 0, 1) := by decide +kernel
theorem dX5_stageAnew_1 : decode cX5_stageAnew 1 = .ok (.getfield 12, 3) := by decide +kernel
theorem dX5_stageAnew_4 : decode cX5_stageAnew 4 = .ok (.bipush 21, 2) := by decide +kernel
theorem dX5_stageAnew_6 : decode cX5_stageAnew 6 = .ok (.invokevirtual 86, 3) := by decide +kernel
theorem dX5_stageAnew_9 : decode cX5_stageAnew 9 = .ok (.aload_n 0, 1) := by decide +kernel
theorem dX5_stageAnew_10 : decode cX5_stageAnew 10 = .ok (.getfield 12, 3) := by decide +kernel
theorem dX5_stageAnew_13 : decode cX5_stageAnew 13 = .ok (.bipush 20, 2) := by decide +kernel
theorem dX5_stageAnew_15 : decode cX5_stageAnew 15 = .ok (.invokevirtual 86, 3) := by decide +kernel
theorem dX5_stageAnew_18 : decode cX5_stageAnew 18 = .ok (.bipush 14, 2) := by decide +kernel
theorem dX5_stageAnew_20 : decode cX5_stageAnew 20 = .ok (.istore_n 1, 1) := by decide +kernel
theorem dX5_stageAnew_21 : decode cX5_stageAnew 21 = .ok (.iload_n 1, 1) := by decide +kernel
theorem dX5_stageAnew_22 : decode cX5_stageAnew 22 = .ok (.bipush 20, 2) := by decide +kernel
theorem dX5_stageAnew_24 : decode cX5_stageAnew 24 = .ok (.if_icmp .ge 17, 3) := by decide +kernel
theorem dX5_stageAnew_27 : decode cX5_stageAnew 27 = .ok (.aload_n 0, 1) := by decide +kernel
theorem dX5_stageAnew_28 : decode cX5_stageAnew 28 = .ok (.getfield 12, 3) := by decide +kernel
theorem dX5_stageAnew_31 : decode cX5_stageAnew 31 = .ok (.iload_n 1, 1) := by decide +kernel
theorem dX5_stageAnew_32 : decode cX5_stageAnew 32 = .ok (.invokevirtual 86, 3) := by decide +kernel
theorem dX5_stageAnew_35 : decode cX5_stageAnew 35 = .ok (.iinc 1 1, 3) := by decide +kernel
theorem dX5_stageAnew_38 : decode cX5_stageAnew 38 = .ok (.goto (-17), 3) := by decide +kernel
theorem dX5_stageAnew_41 : decode cX5_stageAnew 41 = .ok (.aload_n 0, 1) := by decide +kernel
theorem dX5_stageAnew_42 : decode cX5_stageAnew 42 = .ok (.getfield 12, 3) := by decide +kernel
theorem dX5_stageAnew_45 : decode cX5_stageAnew 45 = .ok (.sipush 640, 3) := by decide +kernel
theorem dX5_stageAnew_48 : decode cX5_stageAnew 48 = .ok (.aload_n 0, 1) := by decide +kernel
theorem dX5_stageAnew_49 : decode cX5_stageAnew 49 = .ok (.getfield 38, 3) := by decide +kernel
theorem dX5_stageAnew_52 : decode cX5_stageAnew 52 = .ok (.getfield 226, 3) := by decide +kernel
theorem dX5_stageAnew_55 : decode cX5_stageAnew 55 = .ok (.bipush 20, 2) := by decide +kernel
theorem dX5_stageAnew_57 : decode cX5_stageAnew 57 = .ok (.invokevirtual 138, 3) := by decide +kernel
theorem dX5_stageAnew_60 : decode cX5_stageAnew 60 = .ok (.return_, 1) := by decide +kernel
set_option maxRecDepth 20000 in
theorem ggX5_readStagedManifest_X1_readPage : GoodIn wsX5_readStagedManifest wsX1_readPage := goodIn_r _ [7, 8, 9, 10, 11, 12, 13, 14, 69, 70, 71, 72, 73, 74, 75] (by decide +kernel) (by decide +kernel)
set_option maxRecDepth 20000 in
theorem gX5_readStagedManifest_X1_readPage : GoodIn wsX5_readStagedManifest (wsV RX5 227 RX1 yX1_readPage wsX1_readPage) := goodIn_app (goodIn_of _ (by decide +kernel)) ggX5_readStagedManifest_X1_readPage
set_option maxRecDepth 20000 in
theorem ggX5_readStagedManifest_X1_isInRange : GoodIn wsX5_readStagedManifest wsX1_isInRange := goodIn_r _ [18, 19, 20, 21, 6, 22, 8, 23, 24, 25, 26, 27, 28, 29, 30, 31, 32, 33, 34, 35, 69] (by decide +kernel) (by decide +kernel)
set_option maxRecDepth 20000 in
theorem gX5_readStagedManifest_X1_isInRange : GoodIn wsX5_readStagedManifest (wsV RX5 207 RX1 yX1_isInRange wsX1_isInRange) := goodIn_app (goodIn_of _ (by decide +kernel)) ggX5_readStagedManifest_X1_isInRange
set_option maxRecDepth 20000 in
theorem ggX5_readStagedManifest_X5_isOurs : GoodIn wsX5_readStagedManifest wsX5_isOurs := goodIn_r _ [39, 1, 40, 41, 42, 43, 44, 6, 45, 8, 46, 24, 47, 48, 49, 50, 51, 52, 53, 54, 55, 56, 57, 58, 59, 60, 61, 62, 63, 64, 65, 66, 67, 68, 69] (by decide +kernel) (by decide +kernel)
set_option maxRecDepth 20000 in
theorem gX5_readStagedManifest_X5_isOurs : GoodIn wsX5_readStagedManifest (wsV RX5 210 RX5 yX5_isOurs wsX5_isOurs) := goodIn_app (goodIn_of _ (by decide +kernel)) ggX5_readStagedManifest_X5_isOurs
theorem dX5_readStagedManifest_0 : decode cX5_readStagedManifest 0 = .ok (.aload_n 0, 1) := by decide +kernel
theorem dX5_readStagedManifest_1 : decode cX5_readStagedManifest 1 = .ok (.getfield 38, 3) := by decide +kernel
theorem dX5_readStagedManifest_4 : decode cX5_readStagedManifest 4 = .ok (.aload_n 0, 1) := by decide +kernel
theorem dX5_readStagedManifest_5 : decode cX5_readStagedManifest 5 = .ok (.getfield 12, 3) := by decide +kernel
theorem dX5_readStagedManifest_8 : decode cX5_readStagedManifest 8 = .ok (.invokevirtual 227, 3) := by decide +kernel
theorem dX5_readStagedManifest_11 : decode cX5_readStagedManifest 11 = .ok (.aload_n 0, 1) := by decide +kernel
theorem dX5_readStagedManifest_12 : decode cX5_readStagedManifest 12 = .ok (.getfield 38, 3) := by decide +kernel
theorem dX5_readStagedManifest_15 : decode cX5_readStagedManifest 15 = .ok (.invokevirtual 207, 3) := by decide +kernel
theorem dX5_readStagedManifest_18 : decode cX5_readStagedManifest 18 = .ok (.ifCond .eq 14, 3) := by decide +kernel
theorem dX5_readStagedManifest_21 : decode cX5_readStagedManifest 21 = .ok (.aload_n 0, 1) := by decide +kernel
theorem dX5_readStagedManifest_22 : decode cX5_readStagedManifest 22 = .ok (.invokevirtual 210, 3) := by decide +kernel
theorem dX5_readStagedManifest_25 : decode cX5_readStagedManifest 25 = .ok (.ifCond .eq 7, 3) := by decide +kernel
theorem dX5_readStagedManifest_28 : decode cX5_readStagedManifest 28 = .ok (.iconst 1, 1) := by decide +kernel
theorem dX5_readStagedManifest_29 : decode cX5_readStagedManifest 29 = .ok (.goto 4, 3) := by decide +kernel
theorem dX5_readStagedManifest_32 : decode cX5_readStagedManifest 32 = .ok (.iconst 0, 1) := by decide +kernel
theorem dX5_readStagedManifest_33 : decode cX5_readStagedManifest 33 = .ok (.ireturn, 1) := by decide +kernel
set_option maxRecDepth 20000 in
theorem ggX5_isBlockOf_X5_blocksOf : GoodIn wsX5_isBlockOf wsX5_blocksOf := goodIn_r _ [4] (by decide +kernel) (by decide +kernel)
set_option maxRecDepth 20000 in
theorem gX5_isBlockOf_X5_blocksOf : GoodIn wsX5_isBlockOf (va_wsS RX5 230 yX5_blocksOf wsX5_blocksOf) := goodIn_app (goodIn_of _ (by decide +kernel)) ggX5_isBlockOf_X5_blocksOf
theorem dX5_isBlockOf_0 : decode cX5_isBlockOf 0 = .ok (.iload_n 0, 1) := by decide +kernel
theorem dX5_isBlockOf_1 : decode cX5_isBlockOf 1 = .ok (.ifCond .lt 15, 3) := by decide +kernel
theorem dX5_isBlockOf_4 : decode cX5_isBlockOf 4 = .ok (.iload_n 0, 1) := by decide +kernel
theorem dX5_isBlockOf_5 : decode cX5_isBlockOf 5 = .ok (.iload_n 1, 1) := by decide +kernel
theorem dX5_isBlockOf_6 : decode cX5_isBlockOf 6 = .ok (.invokestatic 230, 3) := by decide +kernel
theorem dX5_isBlockOf_9 : decode cX5_isBlockOf 9 = .ok (.if_icmp .ge 7, 3) := by decide +kernel
theorem dX5_isBlockOf_12 : decode cX5_isBlockOf 12 = .ok (.iconst 1, 1) := by decide +kernel
theorem dX5_isBlockOf_13 : decode cX5_isBlockOf 13 = .ok (.goto 4, 3) := by decide +kernel
theorem dX5_isBlockOf_16 : decode cX5_isBlockOf 16 = .ok (.iconst 0, 1) := by decide +kernel
theorem dX5_isBlockOf_17 : decode cX5_isBlockOf 17 = .ok (.ireturn, 1) := by decide +kernel
theorem dX5_blocksOf_0 : decode cX5_blocksOf 0 = .ok (.iload_n 0, 1) := by decide +kernel
theorem dX5_blocksOf_1 : decode cX5_blocksOf 1 = .ok (.bipush 16, 2) := by decide +kernel
theorem dX5_blocksOf_3 : decode cX5_blocksOf 3 = .ok (.iadd, 1) := by decide +kernel
theorem dX5_blocksOf_4 : decode cX5_blocksOf 4 = .ok (.iconst 1, 1) := by decide +kernel
theorem dX5_blocksOf_5 : decode cX5_blocksOf 5 = .ok (.isub, 1) := by decide +kernel
theorem dX5_blocksOf_6 : decode cX5_blocksOf 6 = .ok (.bipush 16, 2) := by decide +kernel
theorem dX5_blocksOf_8 : decode cX5_blocksOf 8 = .ok (.idiv, 1) := by decide +kernel
theorem dX5_blocksOf_9 : decode cX5_blocksOf 9 = .ok (.ireturn, 1) := by decide +kernel
set_option maxRecDepth 20000 in
theorem ggX5_blockLength_X1_payloadLength : GoodIn wsX5_blockLength wsX1_payloadLength := goodIn_r _ [10, 11, 21] (by decide +kernel) (by decide +kernel)
set_option maxRecDepth 20000 in
theorem gX5_blockLength_X1_payloadLength : GoodIn wsX5_blockLength (wsV RX5 125 RX1 yX1_payloadLength wsX1_payloadLength) := goodIn_app (goodIn_of _ (by decide +kernel)) ggX5_blockLength_X1_payloadLength
theorem dX5_blockLength_0 : decode cX5_blockLength 0 = .ok (.bipush 16, 2) := by decide +kernel
theorem dX5_blockLength_2 : decode cX5_blockLength 2 = .ok (.aload_n 0, 1) := by decide +kernel
theorem dX5_blockLength_3 : decode cX5_blockLength 3 = .ok (.getfield 38, 3) := by decide +kernel
theorem dX5_blockLength_6 : decode cX5_blockLength 6 = .ok (.invokevirtual 125, 3) := by decide +kernel
theorem dX5_blockLength_9 : decode cX5_blockLength 9 = .ok (.bipush 16, 2) := by decide +kernel
theorem dX5_blockLength_11 : decode cX5_blockLength 11 = .ok (.iload_n 1, 1) := by decide +kernel
theorem dX5_blockLength_12 : decode cX5_blockLength 12 = .ok (.imul, 1) := by decide +kernel
theorem dX5_blockLength_13 : decode cX5_blockLength 13 = .ok (.isub, 1) := by decide +kernel
theorem dX5_blockLength_14 : decode cX5_blockLength 14 = .ok (.invokestatic 233, 3) := by decide +kernel
theorem dX5_blockLength_17 : decode cX5_blockLength 17 = .ok (.ireturn, 1) := by decide +kernel
set_option maxRecDepth 20000 in
theorem ggX5_isThere_X0_at : GoodIn wsX5_isThere wsX0_at := goodIn_r _ [6, 7, 17, 18, 19, 20, 21, 22] (by decide +kernel) (by decide +kernel)
set_option maxRecDepth 20000 in
theorem gX5_isThere_X0_at : GoodIn wsX5_isThere (wsV RX5 189 RX0 yX0_at wsX0_at) := goodIn_app (goodIn_of _ (by decide +kernel)) ggX5_isThere_X0_at
theorem dX5_isThere_0 : decode cX5_isThere 0 = .ok (.aload_n 0, 1) := by decide +kernel
theorem dX5_isThere_1 : decode cX5_isThere 1 = .ok (.getfield 12, 3) := by decide +kernel
theorem dX5_isThere_4 : decode cX5_isThere 4 = .ok (.sipush 672, 3) := by decide +kernel
theorem dX5_isThere_7 : decode cX5_isThere 7 = .ok (.iload_n 1, 1) := by decide +kernel
theorem dX5_isThere_8 : decode cX5_isThere 8 = .ok (.iadd, 1) := by decide +kernel
theorem dX5_isThere_9 : decode cX5_isThere 9 = .ok (.invokevirtual 189, 3) := by decide +kernel
theorem dX5_isThere_12 : decode cX5_isThere 12 = .ok (.ifCond .ne 7, 3) := by decide +kernel
theorem dX5_isThere_15 : decode cX5_isThere 15 = .ok (.iconst 1, 1) := by decide +kernel
theorem dX5_isThere_16 : decode cX5_isThere 16 = .ok (.goto 4, 3) := by decide +kernel
theorem dX5_isThere_19 : decode cX5_isThere 19 = .ok (.iconst 0, 1) := by decide +kernel
theorem dX5_isThere_20 : decode cX5_isThere 20 = .ok (.ireturn, 1) := by decide +kernel
set_option maxRecDepth 20000 in
theorem ggX5_isWhollyStaged_X1_payloadLength : GoodIn wsX5_isWhollyStaged wsX1_payloadLength := goodIn_r _ [6, 7, 32] (by decide +kernel) (by decide +kernel)
set_option maxRecDepth 20000 in
theorem gX5_isWhollyStaged_X1_payloadLength : GoodIn wsX5_isWhollyStaged (wsV RX5 125 RX1 yX1_payloadLength wsX1_payloadLength) := goodIn_app (goodIn_of _ (by decide +kernel)) ggX5_isWhollyStaged_X1_payloadLength
set_option maxRecDepth 20000 in
theorem ggX5_isWhollyStaged_X5_blocksOf : GoodIn wsX5_isWhollyStaged wsX5_blocksOf := goodIn_r _ [11] (by decide +kernel) (by decide +kernel)
set_option maxRecDepth 20000 in
theorem gX5_isWhollyStaged_X5_blocksOf : GoodIn wsX5_isWhollyStaged (va_wsS RX5 230 yX5_blocksOf wsX5_blocksOf) := goodIn_app (goodIn_of _ (by decide +kernel)) ggX5_isWhollyStaged_X5_blocksOf
set_option maxRecDepth 20000 in
theorem ggX5_isWhollyStaged_X5_isThere : GoodIn wsX5_isWhollyStaged wsX5_isThere := goodIn_r _ [15, 16, 17, 18, 19, 20, 21, 22, 23, 24, 25, 26, 27, 28, 29, 30, 31, 33, 34, 35, 36, 37, 38] (by decide +kernel) (by decide +kernel)
set_option maxRecDepth 20000 in
theorem gX5_isWhollyStaged_X5_isThere : GoodIn wsX5_isWhollyStaged (wsV RX5 135 RX5 yX5_isThere wsX5_isThere) := goodIn_app (goodIn_of _ (by decide +kernel)) ggX5_isWhollyStaged_X5_isThere
theorem dX5_isWhollyStaged_0 : decode cX5_isWhollyStaged 0 = .ok (.aload_n 0, 1) := by decide +kernel
theorem dX5_isWhollyStaged_1 : decode cX5_isWhollyStaged 1 = .ok (.getfield 38, 3) := by decide +kernel
theorem dX5_isWhollyStaged_4 : decode cX5_isWhollyStaged 4 = .ok (.invokevirtual 125, 3) := by decide +kernel
theorem dX5_isWhollyStaged_7 : decode cX5_isWhollyStaged 7 = .ok (.invokestatic 230, 3) := by decide +kernel
theorem dX5_isWhollyStaged_10 : decode cX5_isWhollyStaged 10 = .ok (.istore_n 1, 1) := by decide +kernel
theorem dX5_isWhollyStaged_11 : decode cX5_isWhollyStaged 11 = .ok (.iconst 0, 1) := by decide +kernel
theorem dX5_isWhollyStaged_12 : decode cX5_isWhollyStaged 12 = .ok (.istore_n 2, 1) := by decide +kernel
theorem dX5_isWhollyStaged_13 : decode cX5_isWhollyStaged 13 = .ok (.iload_n 2, 1) := by decide +kernel
theorem dX5_isWhollyStaged_14 : decode cX5_isWhollyStaged 14 = .ok (.iload_n 1, 1) := by decide +kernel
theorem dX5_isWhollyStaged_15 : decode cX5_isWhollyStaged 15 = .ok (.if_icmp .ge 19, 3) := by decide +kernel
theorem dX5_isWhollyStaged_18 : decode cX5_isWhollyStaged 18 = .ok (.aload_n 0, 1) := by decide +kernel
theorem dX5_isWhollyStaged_19 : decode cX5_isWhollyStaged 19 = .ok (.iload_n 2, 1) := by decide +kernel
theorem dX5_isWhollyStaged_20 : decode cX5_isWhollyStaged 20 = .ok (.invokevirtual 135, 3) := by decide +kernel
theorem dX5_isWhollyStaged_23 : decode cX5_isWhollyStaged 23 = .ok (.ifCond .ne 5, 3) := by decide +kernel
theorem dX5_isWhollyStaged_26 : decode cX5_isWhollyStaged 26 = .ok (.iconst 0, 1) := by decide +kernel
theorem dX5_isWhollyStaged_27 : decode cX5_isWhollyStaged 27 = .ok (.ireturn, 1) := by decide +kernel
theorem dX5_isWhollyStaged_28 : decode cX5_isWhollyStaged 28 = .ok (.iinc 2 1, 3) := by decide +kernel
theorem dX5_isWhollyStaged_31 : decode cX5_isWhollyStaged 31 = .ok (.goto (-18), 3) := by decide +kernel
theorem dX5_isWhollyStaged_34 : decode cX5_isWhollyStaged 34 = .ok (.iconst 1, 1) := by decide +kernel
theorem dX5_isWhollyStaged_35 : decode cX5_isWhollyStaged 35 = .ok (.ireturn, 1) := by decide +kernel
set_option maxRecDepth 20000 in
theorem ggX5_makeImage_X1_payloadLength : GoodIn wsX5_makeImage wsX1_payloadLength := goodIn_r _ [8, 9, 93] (by decide +kernel) (by decide +kernel)
set_option maxRecDepth 20000 in
theorem gX5_makeImage_X1_payloadLength : GoodIn wsX5_makeImage (wsV RX5 125 RX1 yX1_payloadLength wsX1_payloadLength) := goodIn_app (goodIn_of _ (by decide +kernel)) ggX5_makeImage_X1_payloadLength
set_option maxRecDepth 20000 in
theorem ggX5_makeImage_X0_digestOf : GoodIn wsX5_makeImage wsX0_digestOf := goodIn_r _ [14, 15, 16, 17, 13, 18, 19, 20, 21, 22, 23, 94, 95, 96, 97, 98, 99] (by decide +kernel) (by decide +kernel)
set_option maxRecDepth 20000 in
theorem gX5_makeImage_X0_digestOf : GoodIn wsX5_makeImage (wsV RX5 239 RX0 yX0_digestOf wsX0_digestOf) := goodIn_app (goodIn_of _ (by decide +kernel)) ggX5_makeImage_X0_digestOf
set_option maxRecDepth 20000 in
theorem ggX5_makeImage_X1_payloadDigest : GoodIn wsX5_makeImage wsX1_payloadDigest := goodIn_r _ [27, 28, 29, 30, 7, 31, 9, 93] (by decide +kernel) (by decide +kernel)
set_option maxRecDepth 20000 in
theorem gX5_makeImage_X1_payloadDigest : GoodIn wsX5_makeImage (wsV RX5 242 RX1 yX1_payloadDigest wsX1_payloadDigest) := goodIn_app (goodIn_of _ (by decide +kernel)) ggX5_makeImage_X1_payloadDigest
set_option maxRecDepth 20000 in
theorem ggX5_makeImage_X1_baseDigest : GoodIn wsX5_makeImage wsX1_baseDigest := goodIn_r _ [35, 28, 29, 30, 7, 31, 9, 93] (by decide +kernel) (by decide +kernel)
set_option maxRecDepth 20000 in
theorem gX5_makeImage_X1_baseDigest : GoodIn wsX5_makeImage (wsV RX5 245 RX1 yX1_baseDigest wsX1_baseDigest) := goodIn_app (goodIn_of _ (by decide +kernel)) ggX5_makeImage_X1_baseDigest
set_option maxRecDepth 20000 in
theorem ggX5_makeImage_X3_digest : GoodIn wsX5_makeImage wsX3_digest := goodIn_r _ [40, 41, 42, 43, 44, 13, 45, 15, 16, 17, 18, 19, 88, 89, 90, 94, 95, 96, 97, 98, 99] (by decide +kernel) (by decide +kernel)
set_option maxRecDepth 20000 in
theorem gX5_makeImage_X3_digest : GoodIn wsX5_makeImage (wsV RX5 248 RX3 yX3_digest wsX3_digest) := goodIn_app (goodIn_of _ (by decide +kernel)) ggX5_makeImage_X3_digest
set_option maxRecDepth 20000 in
theorem ggX5_makeImage_X3_length : GoodIn wsX5_makeImage wsX3_length := goodIn_r _ [49, 41, 50, 16, 17, 13, 18, 19, 88, 89, 90, 94, 95, 96, 97, 98, 99] (by decide +kernel) (by decide +kernel)
set_option maxRecDepth 20000 in
theorem gX5_makeImage_X3_length : GoodIn wsX5_makeImage (wsV RX5 250 RX3 yX3_length wsX3_length) := goodIn_app (goodIn_of _ (by decide +kernel)) ggX5_makeImage_X3_length
set_option maxRecDepth 20000 in
theorem ggX5_makeImage_X2_unfold : GoodIn wsX5_makeImage wsX2_unfold := goodIn_r _ [55, 56, 57, 16, 17, 13, 18, 19, 58, 59, 60, 54, 61, 62, 63, 64, 65, 66, 91, 92, 94, 95, 96, 97, 98, 99] (by decide +kernel) (by decide +kernel)
set_option maxRecDepth 20000 in
theorem gX5_makeImage_X2_unfold : GoodIn wsX5_makeImage (wsV RX5 255 RX2 yX2_unfold wsX2_unfold) := goodIn_app (goodIn_of _ (by decide +kernel)) ggX5_makeImage_X2_unfold
set_option maxRecDepth 20000 in
theorem ggX5_makeImage_X1_imageLength : GoodIn wsX5_makeImage wsX1_imageLength := goodIn_r _ [70, 9, 93] (by decide +kernel) (by decide +kernel)
set_option maxRecDepth 20000 in
theorem gX5_makeImage_X1_imageLength : GoodIn wsX5_makeImage (wsV RX5 262 RX1 yX1_imageLength wsX1_imageLength) := goodIn_app (goodIn_of _ (by decide +kernel)) ggX5_makeImage_X1_imageLength
set_option maxRecDepth 20000 in
theorem ggX5_makeImage_X5_digest : GoodIn wsX5_makeImage wsX5_digest := goodIn_r _ [73, 74, 20, 21, 22, 23] (by decide +kernel) (by decide +kernel)
set_option maxRecDepth 20000 in
theorem gX5_makeImage_X5_digest : GoodIn wsX5_makeImage (va_wsS RX5 96 yX5_digest wsX5_digest) := goodIn_app (goodIn_of _ (by decide +kernel)) ggX5_makeImage_X5_digest
set_option maxRecDepth 20000 in
theorem ggX5_makeImage_X1_imageDigest : GoodIn wsX5_makeImage wsX1_imageDigest := goodIn_r _ [78, 28, 29, 30, 7, 31, 9, 93] (by decide +kernel) (by decide +kernel)
set_option maxRecDepth 20000 in
theorem gX5_makeImage_X1_imageDigest : GoodIn wsX5_makeImage (wsV RX5 268 RX1 yX1_imageDigest wsX1_imageDigest) := goodIn_app (goodIn_of _ (by decide +kernel)) ggX5_makeImage_X1_imageDigest
theorem dX5_makeImage_0 : decode cX5_makeImage 0 = .ok (.aload_n 0, 1) := by decide +kernel
theorem dX5_makeImage_1 : decode cX5_makeImage 1 = .ok (.getfield 12, 3) := by decide +kernel
theorem dX5_makeImage_4 : decode cX5_makeImage 4 = .ok (.sipush 448, 3) := by decide +kernel
theorem dX5_makeImage_7 : decode cX5_makeImage 7 = .ok (.aload_n 0, 1) := by decide +kernel
theorem dX5_makeImage_8 : decode cX5_makeImage 8 = .ok (.getfield 38, 3) := by decide +kernel
theorem dX5_makeImage_11 : decode cX5_makeImage 11 = .ok (.invokevirtual 125, 3) := by decide +kernel
theorem dX5_makeImage_14 : decode cX5_makeImage 14 = .ok (.invokevirtual 239, 3) := by decide +kernel
theorem dX5_makeImage_17 : decode cX5_makeImage 17 = .ok (.aload_n 0, 1) := by decide +kernel
theorem dX5_makeImage_18 : decode cX5_makeImage 18 = .ok (.getfield 38, 3) := by decide +kernel
theorem dX5_makeImage_21 : decode cX5_makeImage 21 = .ok (.invokevirtual 242, 3) := by decide +kernel
theorem dX5_makeImage_24 : decode cX5_makeImage 24 = .ok (.if_icmp .eq 5, 3) := by decide +kernel
theorem dX5_makeImage_27 : decode cX5_makeImage 27 = .ok (.iconst 0, 1) := by decide +kernel
theorem dX5_makeImage_28 : decode cX5_makeImage 28 = .ok (.ireturn, 1) := by decide +kernel
theorem dX5_makeImage_29 : decode cX5_makeImage 29 = .ok (.aload_n 0, 1) := by decide +kernel
theorem dX5_makeImage_30 : decode cX5_makeImage 30 = .ok (.getfield 38, 3) := by decide +kernel
theorem dX5_makeImage_33 : decode cX5_makeImage 33 = .ok (.invokevirtual 245, 3) := by decide +kernel
theorem dX5_makeImage_36 : decode cX5_makeImage 36 = .ok (.ifCond .eq 7, 3) := by decide +kernel
theorem dX5_makeImage_39 : decode cX5_makeImage 39 = .ok (.iconst 1, 1) := by decide +kernel
theorem dX5_makeImage_40 : decode cX5_makeImage 40 = .ok (.goto 4, 3) := by decide +kernel
theorem dX5_makeImage_43 : decode cX5_makeImage 43 = .ok (.iconst 0, 1) := by decide +kernel
theorem dX5_makeImage_44 : decode cX5_makeImage 44 = .ok (.istore_n 2, 1) := by decide +kernel
theorem dX5_makeImage_45 : decode cX5_makeImage 45 = .ok (.iload_n 2, 1) := by decide +kernel
theorem dX5_makeImage_46 : decode cX5_makeImage 46 = .ok (.ifCond .eq 23, 3) := by decide +kernel
theorem dX5_makeImage_49 : decode cX5_makeImage 49 = .ok (.aload_n 0, 1) := by decide +kernel
theorem dX5_makeImage_50 : decode cX5_makeImage 50 = .ok (.getfield 38, 3) := by decide +kernel
theorem dX5_makeImage_53 : decode cX5_makeImage 53 = .ok (.invokevirtual 245, 3) := by decide +kernel
theorem dX5_makeImage_56 : decode cX5_makeImage 56 = .ok (.aload_n 1, 1) := by decide +kernel
theorem dX5_makeImage_57 : decode cX5_makeImage 57 = .ok (.aload_n 0, 1) := by decide +kernel
theorem dX5_makeImage_58 : decode cX5_makeImage 58 = .ok (.getfield 12, 3) := by decide +kernel
theorem dX5_makeImage_61 : decode cX5_makeImage 61 = .ok (.invokevirtual 248, 3) := by decide +kernel
theorem dX5_makeImage_64 : decode cX5_makeImage 64 = .ok (.if_icmp .eq 5, 3) := by decide +kernel
theorem dX5_makeImage_67 : decode cX5_makeImage 67 = .ok (.iconst 0, 1) := by decide +kernel
theorem dX5_makeImage_68 : decode cX5_makeImage 68 = .ok (.ireturn, 1) := by decide +kernel
theorem dX5_makeImage_69 : decode cX5_makeImage 69 = .ok (.iload_n 2, 1) := by decide +kernel
theorem dX5_makeImage_70 : decode cX5_makeImage 70 = .ok (.ifCond .eq 14, 3) := by decide +kernel
theorem dX5_makeImage_73 : decode cX5_makeImage 73 = .ok (.aload_n 1, 1) := by decide +kernel
theorem dX5_makeImage_74 : decode cX5_makeImage 74 = .ok (.aload_n 0, 1) := by decide +kernel
theorem dX5_makeImage_75 : decode cX5_makeImage 75 = .ok (.getfield 12, 3) := by decide +kernel
theorem dX5_makeImage_78 : decode cX5_makeImage 78 = .ok (.invokevirtual 250, 3) := by decide +kernel
theorem dX5_makeImage_81 : decode cX5_makeImage 81 = .ok (.goto 4, 3) := by decide +kernel
theorem dX5_makeImage_84 : decode cX5_makeImage 84 = .ok (.iconst 0, 1) := by decide +kernel
theorem dX5_makeImage_85 : decode cX5_makeImage 85 = .ok (.istore_n 3, 1) := by decide +kernel
theorem dX5_makeImage_86 : decode cX5_makeImage 86 = .ok (.aload_n 0, 1) := by decide +kernel
theorem dX5_makeImage_87 : decode cX5_makeImage 87 = .ok (.getfield 45, 3) := by decide +kernel
theorem dX5_makeImage_90 : decode cX5_makeImage 90 = .ok (.aload_n 0, 1) := by decide +kernel
theorem dX5_makeImage_91 : decode cX5_makeImage 91 = .ok (.getfield 12, 3) := by decide +kernel
theorem dX5_makeImage_94 : decode cX5_makeImage 94 = .ok (.aload_n 0, 1) := by decide +kernel
theorem dX5_makeImage_95 : decode cX5_makeImage 95 = .ok (.getfield 38, 3) := by decide +kernel
theorem dX5_makeImage_98 : decode cX5_makeImage 98 = .ok (.invokevirtual 125, 3) := by decide +kernel
theorem dX5_makeImage_101 : decode cX5_makeImage 101 = .ok (.aload_n 1, 1) := by decide +kernel
theorem dX5_makeImage_102 : decode cX5_makeImage 102 = .ok (.getfield 252, 3) := by decide +kernel
theorem dX5_makeImage_105 : decode cX5_makeImage 105 = .ok (.iload_n 3, 1) := by decide +kernel
theorem dX5_makeImage_106 : decode cX5_makeImage 106 = .ok (.invokevirtual 255, 3) := by decide +kernel
theorem dX5_makeImage_109 : decode cX5_makeImage 109 = .ok (.ifCond .eq 52, 3) := by decide +kernel
theorem dX5_makeImage_112 : decode cX5_makeImage 112 = .ok (.aload_n 0, 1) := by decide +kernel
theorem dX5_makeImage_113 : decode cX5_makeImage 113 = .ok (.getfield 45, 3) := by decide +kernel
theorem dX5_makeImage_116 : decode cX5_makeImage 116 = .ok (.getfield 259, 3) := by decide +kernel
theorem dX5_makeImage_119 : decode cX5_makeImage 119 = .ok (.aload_n 0, 1) := by decide +kernel
theorem dX5_makeImage_120 : decode cX5_makeImage 120 = .ok (.getfield 38, 3) := by decide +kernel
theorem dX5_makeImage_123 : decode cX5_makeImage 123 = .ok (.invokevirtual 262, 3) := by decide +kernel
theorem dX5_makeImage_126 : decode cX5_makeImage 126 = .ok (.if_icmp .ne 35, 3) := by decide +kernel
theorem dX5_makeImage_129 : decode cX5_makeImage 129 = .ok (.iconst 0, 1) := by decide +kernel
theorem dX5_makeImage_130 : decode cX5_makeImage 130 = .ok (.aload_n 0, 1) := by decide +kernel
theorem dX5_makeImage_131 : decode cX5_makeImage 131 = .ok (.getfield 45, 3) := by decide +kernel
theorem dX5_makeImage_134 : decode cX5_makeImage 134 = .ok (.getfield 265, 3) := by decide +kernel
theorem dX5_makeImage_137 : decode cX5_makeImage 137 = .ok (.aload_n 0, 1) := by decide +kernel
theorem dX5_makeImage_138 : decode cX5_makeImage 138 = .ok (.getfield 45, 3) := by decide +kernel
theorem dX5_makeImage_141 : decode cX5_makeImage 141 = .ok (.getfield 259, 3) := by decide +kernel
theorem dX5_makeImage_144 : decode cX5_makeImage 144 = .ok (.invokestatic 96, 3) := by decide +kernel
theorem dX5_makeImage_147 : decode cX5_makeImage 147 = .ok (.aload_n 0, 1) := by decide +kernel
theorem dX5_makeImage_148 : decode cX5_makeImage 148 = .ok (.getfield 38, 3) := by decide +kernel
theorem dX5_makeImage_151 : decode cX5_makeImage 151 = .ok (.invokevirtual 268, 3) := by decide +kernel
theorem dX5_makeImage_154 : decode cX5_makeImage 154 = .ok (.if_icmp .ne 7, 3) := by decide +kernel
theorem dX5_makeImage_157 : decode cX5_makeImage 157 = .ok (.iconst 1, 1) := by decide +kernel
theorem dX5_makeImage_158 : decode cX5_makeImage 158 = .ok (.goto 4, 3) := by decide +kernel
theorem dX5_makeImage_161 : decode cX5_makeImage 161 = .ok (.iconst 0, 1) := by decide +kernel
theorem dX5_makeImage_162 : decode cX5_makeImage 162 = .ok (.ireturn, 1) := by decide +kernel
set_option maxRecDepth 20000 in
theorem ggX5_programUpdate_X3_eraseHeader : GoodIn wsX5_programUpdate wsX3_eraseHeader := goodIn_r _ [8, 9, 10, 11, 12, 13, 14, 15, 16, 17, 18, 19, 20, 21, 22, 23, 24, 93, 94, 95, 96, 97, 98, 99, 100, 101] (by decide +kernel) (by decide +kernel)
set_option maxRecDepth 20000 in
theorem gX5_programUpdate_X3_eraseHeader : GoodIn wsX5_programUpdate (wsV RX5 83 RX3 yX3_eraseHeader wsX3_eraseHeader) := goodIn_app (goodIn_of _ (by decide +kernel)) ggX5_programUpdate_X3_eraseHeader
set_option maxRecDepth 20000 in
theorem ggX5_programUpdate_X3_eraseImage : GoodIn wsX5_programUpdate wsX3_eraseImage := goodIn_r _ [28, 9, 10, 11, 12, 13, 14, 15, 16, 17, 18, 19, 20, 21, 22, 23, 24, 93, 94, 95, 96, 97, 98, 99, 100, 101] (by decide +kernel) (by decide +kernel)
set_option maxRecDepth 20000 in
theorem gX5_programUpdate_X3_eraseImage : GoodIn wsX5_programUpdate (wsV RX5 79 RX3 yX3_eraseImage wsX3_eraseImage) := goodIn_app (goodIn_of _ (by decide +kernel)) ggX5_programUpdate_X3_eraseImage
set_option maxRecDepth 20000 in
theorem ggX5_programUpdate_X3_programImage : GoodIn wsX5_programUpdate wsX3_programImage := goodIn_r _ [32, 33, 34, 35, 36, 13, 37, 38, 39, 40, 41, 15, 16, 17, 18, 19, 20, 21, 22, 23, 24, 93, 94, 95, 96, 97, 98, 99, 100, 101] (by decide +kernel) (by decide +kernel)
set_option maxRecDepth 20000 in
theorem gX5_programUpdate_X3_programImage : GoodIn wsX5_programUpdate (wsV RX5 92 RX3 yX3_programImage wsX3_programImage) := goodIn_app (goodIn_of _ (by decide +kernel)) ggX5_programUpdate_X3_programImage
set_option maxRecDepth 20000 in
theorem ggX5_programUpdate_X1_imageLength : GoodIn wsX5_programUpdate wsX1_imageLength := goodIn_r _ [46, 47, 102] (by decide +kernel) (by decide +kernel)
set_option maxRecDepth 20000 in
theorem gX5_programUpdate_X1_imageLength : GoodIn wsX5_programUpdate (wsV RX5 262 RX1 yX1_imageLength wsX1_imageLength) := goodIn_app (goodIn_of _ (by decide +kernel)) ggX5_programUpdate_X1_imageLength
set_option maxRecDepth 20000 in
theorem ggX5_programUpdate_X1_sequence : GoodIn wsX5_programUpdate wsX1_sequence := goodIn_r _ [51, 47, 102] (by decide +kernel) (by decide +kernel)
set_option maxRecDepth 20000 in
theorem gX5_programUpdate_X1_sequence : GoodIn wsX5_programUpdate (wsV RX5 146 RX1 yX1_sequence wsX1_sequence) := goodIn_app (goodIn_of _ (by decide +kernel)) ggX5_programUpdate_X1_sequence
set_option maxRecDepth 20000 in
theorem ggX5_programUpdate_X1_imageDigest : GoodIn wsX5_programUpdate wsX1_imageDigest := goodIn_r _ [55, 56, 57, 58, 45, 59, 47, 102] (by decide +kernel) (by decide +kernel)
set_option maxRecDepth 20000 in
theorem gX5_programUpdate_X1_imageDigest : GoodIn wsX5_programUpdate (wsV RX5 268 RX1 yX1_imageDigest wsX1_imageDigest) := goodIn_app (goodIn_of _ (by decide +kernel)) ggX5_programUpdate_X1_imageDigest
set_option maxRecDepth 20000 in
theorem ggX5_programUpdate_X3_programName : GoodIn wsX5_programUpdate wsX3_programName := goodIn_r _ [63, 64, 65, 39, 40, 13, 41, 15, 16, 17, 18, 19, 20, 21, 22, 23, 24, 66, 67, 68, 69, 70, 71, 72, 38, 93, 94, 95, 96, 97, 98, 99, 100, 101] (by decide +kernel) (by decide +kernel)
set_option maxRecDepth 20000 in
theorem gX5_programUpdate_X3_programName : GoodIn wsX5_programUpdate (wsV RX5 100 RX3 yX3_programName wsX3_programName) := goodIn_app (goodIn_of _ (by decide +kernel)) ggX5_programUpdate_X3_programName
set_option maxRecDepth 20000 in
theorem ggX5_programUpdate_X3_programTrials : GoodIn wsX5_programUpdate wsX3_programTrials := goodIn_r _ [76, 64, 65, 39, 40, 13, 41, 15, 16, 17, 18, 19, 20, 21, 22, 23, 24, 93, 94, 95, 96, 97, 98, 99, 100, 101] (by decide +kernel) (by decide +kernel)
set_option maxRecDepth 20000 in
theorem gX5_programUpdate_X3_programTrials : GoodIn wsX5_programUpdate (wsV RX5 271 RX3 yX3_programTrials wsX3_programTrials) := goodIn_app (goodIn_of _ (by decide +kernel)) ggX5_programUpdate_X3_programTrials
set_option maxRecDepth 20000 in
theorem ggX5_programUpdate_X3_programWhole : GoodIn wsX5_programUpdate wsX3_programWhole := goodIn_r _ [80, 64, 65, 39, 40, 13, 41, 15, 16, 17, 18, 19, 20, 21, 22, 23, 24, 93, 94, 95, 96, 97, 98, 99, 100, 101] (by decide +kernel) (by decide +kernel)
set_option maxRecDepth 20000 in
theorem gX5_programUpdate_X3_programWhole : GoodIn wsX5_programUpdate (wsV RX5 107 RX3 yX3_programWhole wsX3_programWhole) := goodIn_app (goodIn_of _ (by decide +kernel)) ggX5_programUpdate_X3_programWhole
set_option maxRecDepth 20000 in
theorem ggX5_programUpdate_X0_erase : GoodIn wsX5_programUpdate wsX0_erase := goodIn_r _ [14, 15, 16, 17, 18, 19, 20, 13, 21, 22, 23, 24, 96, 97, 98, 99, 100, 101] (by decide +kernel) (by decide +kernel)
set_option maxRecDepth 20000 in
theorem gX5_programUpdate_X0_erase : GoodIn wsX5_programUpdate (wsV RX5 86 RX0 yX0_erase wsX0_erase) := goodIn_app (goodIn_of _ (by decide +kernel)) ggX5_programUpdate_X0_erase
theorem dX5_programUpdate_0 : decode cX5_programUpdate 0 = .ok (.aload_n 1, 1) := by decide +kernel
theorem dX5_programUpdate_1 : decode cX5_programUpdate 1 = .ok (.aload_n 0, 1) := by decide +kernel
theorem dX5_programUpdate_2 : decode cX5_programUpdate 2 = .ok (.getfield 12, 3) := by decide +kernel
theorem dX5_programUpdate_5 : decode cX5_programUpdate 5 = .ok (.invokevirtual 83, 3) := by decide +kernel
theorem dX5_programUpdate_8 : decode cX5_programUpdate 8 = .ok (.aload_n 1, 1) := by decide +kernel
theorem dX5_programUpdate_9 : decode cX5_programUpdate 9 = .ok (.aload_n 0, 1) := by decide +kernel
theorem dX5_programUpdate_10 : decode cX5_programUpdate 10 = .ok (.getfield 12, 3) := by decide +kernel
theorem dX5_programUpdate_13 : decode cX5_programUpdate 13 = .ok (.invokevirtual 79, 3) := by decide +kernel
theorem dX5_programUpdate_16 : decode cX5_programUpdate 16 = .ok (.aload_n 1, 1) := by decide +kernel
theorem dX5_programUpdate_17 : decode cX5_programUpdate 17 = .ok (.aload_n 0, 1) := by decide +kernel
theorem dX5_programUpdate_18 : decode cX5_programUpdate 18 = .ok (.getfield 12, 3) := by decide +kernel
theorem dX5_programUpdate_21 : decode cX5_programUpdate 21 = .ok (.aload_n 0, 1) := by decide +kernel
theorem dX5_programUpdate_22 : decode cX5_programUpdate 22 = .ok (.getfield 45, 3) := by decide +kernel
theorem dX5_programUpdate_25 : decode cX5_programUpdate 25 = .ok (.getfield 265, 3) := by decide +kernel
theorem dX5_programUpdate_28 : decode cX5_programUpdate 28 = .ok (.aload_n 0, 1) := by decide +kernel
theorem dX5_programUpdate_29 : decode cX5_programUpdate 29 = .ok (.getfield 45, 3) := by decide +kernel
theorem dX5_programUpdate_32 : decode cX5_programUpdate 32 = .ok (.getfield 259, 3) := by decide +kernel
theorem dX5_programUpdate_35 : decode cX5_programUpdate 35 = .ok (.invokevirtual 92, 3) := by decide +kernel
theorem dX5_programUpdate_38 : decode cX5_programUpdate 38 = .ok (.aload_n 1, 1) := by decide +kernel
theorem dX5_programUpdate_39 : decode cX5_programUpdate 39 = .ok (.aload_n 0, 1) := by decide +kernel
theorem dX5_programUpdate_40 : decode cX5_programUpdate 40 = .ok (.getfield 12, 3) := by decide +kernel
theorem dX5_programUpdate_43 : decode cX5_programUpdate 43 = .ok (.aload_n 0, 1) := by decide +kernel
theorem dX5_programUpdate_44 : decode cX5_programUpdate 44 = .ok (.getfield 38, 3) := by decide +kernel
theorem dX5_programUpdate_47 : decode cX5_programUpdate 47 = .ok (.invokevirtual 262, 3) := by decide +kernel
theorem dX5_programUpdate_50 : decode cX5_programUpdate 50 = .ok (.aload_n 0, 1) := by decide +kernel
theorem dX5_programUpdate_51 : decode cX5_programUpdate 51 = .ok (.getfield 38, 3) := by decide +kernel
theorem dX5_programUpdate_54 : decode cX5_programUpdate 54 = .ok (.invokevirtual 146, 3) := by decide +kernel
theorem dX5_programUpdate_57 : decode cX5_programUpdate 57 = .ok (.aload_n 0, 1) := by decide +kernel
theorem dX5_programUpdate_58 : decode cX5_programUpdate 58 = .ok (.getfield 38, 3) := by decide +kernel
theorem dX5_programUpdate_61 : decode cX5_programUpdate 61 = .ok (.invokevirtual 268, 3) := by decide +kernel
theorem dX5_programUpdate_64 : decode cX5_programUpdate 64 = .ok (.invokevirtual 100, 3) := by decide +kernel
theorem dX5_programUpdate_67 : decode cX5_programUpdate 67 = .ok (.aload_n 1, 1) := by decide +kernel
theorem dX5_programUpdate_68 : decode cX5_programUpdate 68 = .ok (.aload_n 0, 1) := by decide +kernel
theorem dX5_programUpdate_69 : decode cX5_programUpdate 69 = .ok (.getfield 12, 3) := by decide +kernel
theorem dX5_programUpdate_72 : decode cX5_programUpdate 72 = .ok (.invokevirtual 271, 3) := by decide +kernel
theorem dX5_programUpdate_75 : decode cX5_programUpdate 75 = .ok (.aload_n 1, 1) := by decide +kernel
theorem dX5_programUpdate_76 : decode cX5_programUpdate 76 = .ok (.aload_n 0, 1) := by decide +kernel
theorem dX5_programUpdate_77 : decode cX5_programUpdate 77 = .ok (.getfield 12, 3) := by decide +kernel
theorem dX5_programUpdate_80 : decode cX5_programUpdate 80 = .ok (.invokevirtual 107, 3) := by decide +kernel
theorem dX5_programUpdate_83 : decode cX5_programUpdate 83 = .ok (.aload_n 0, 1) := by decide +kernel
theorem dX5_programUpdate_84 : decode cX5_programUpdate 84 = .ok (.getfield 12, 3) := by decide +kernel
theorem dX5_programUpdate_87 : decode cX5_programUpdate 87 = .ok (.bipush 20, 2) := by decide +kernel
theorem dX5_programUpdate_89 : decode cX5_programUpdate 89 = .ok (.invokevirtual 86, 3) := by decide +kernel
theorem dX5_programUpdate_92 : decode cX5_programUpdate 92 = .ok (.return_, 1) := by decide +kernel
set_option maxRecDepth 20000 in
theorem ggX5_slotOnTrial_X5_isGood : GoodIn wsX5_slotOnTrial wsX5_isGood := goodIn_r _ [8, 2, 9, 10, 11, 7, 12, 13, 14, 15, 16, 17, 18, 19, 20, 21, 22, 23, 24, 25, 26, 27, 28, 29, 30, 31, 32, 33, 34, 35, 36, 37, 38, 39, 40, 41, 42, 43, 44, 45, 46, 47, 48, 49, 50, 51, 52, 53, 54, 55, 56, 57, 58, 59, 60, 61, 62, 63, 77, 78, 79, 80, 81, 82, 83, 84, 85, 86, 87, 88, 89, 90, 91, 92, 93, 94] (by decide +kernel) (by decide +kernel)
set_option maxRecDepth 20000 in
theorem gX5_slotOnTrial_X5_isGood : GoodIn wsX5_slotOnTrial (wsV RX5 200 RX5 yX5_isGood wsX5_isGood) := goodIn_app (goodIn_of _ (by decide +kernel)) ggX5_slotOnTrial_X5_isGood
set_option maxRecDepth 20000 in
theorem ggX5_slotOnTrial_X3_isOnTrial : GoodIn wsX5_slotOnTrial wsX3_isOnTrial := goodIn_r _ [67, 36, 68, 69, 70, 29, 71, 37, 14, 15, 16, 17, 18, 92, 93, 94, 86, 87, 88, 89, 90, 91] (by decide +kernel) (by decide +kernel)
set_option maxRecDepth 20000 in
theorem gX5_slotOnTrial_X3_isOnTrial : GoodIn wsX5_slotOnTrial (wsV RX5 274 RX3 yX3_isOnTrial wsX3_isOnTrial) := goodIn_app (goodIn_of _ (by decide +kernel)) ggX5_slotOnTrial_X3_isOnTrial
set_option maxRecDepth 20000 in
theorem ggX5_slotOnTrial_X5_later : GoodIn wsX5_slotOnTrial wsX5_later := goodIn_r _ [75, 3, 2, 1, 76, 45, 46, 29, 47, 36, 37, 14, 15, 16, 17, 18, 77, 78, 79, 80, 81, 82, 83, 84, 85, 92, 93, 94, 86, 87, 88, 89, 90, 91] (by decide +kernel) (by decide +kernel)
set_option maxRecDepth 20000 in
theorem gX5_slotOnTrial_X5_later : GoodIn wsX5_slotOnTrial (wsV RX5 277 RX5 yX5_later wsX5_later) := goodIn_app (goodIn_of _ (by decide +kernel)) ggX5_slotOnTrial_X5_later
theorem dX5_slotOnTrial_0 : decode cX5_slotOnTrial 0 = .ok (.aload_n 0, 1) := by decide +kernel
theorem dX5_slotOnTrial_1 : decode cX5_slotOnTrial 1 = .ok (.aload_n 0, 1) := by decide +kernel
theorem dX5_slotOnTrial_2 : decode cX5_slotOnTrial 2 = .ok (.aload_n 0, 1) := by decide +kernel
theorem dX5_slotOnTrial_3 : decode cX5_slotOnTrial 3 = .ok (.getfield 28, 3) := by decide +kernel
theorem dX5_slotOnTrial_6 : decode cX5_slotOnTrial 6 = .ok (.invokevirtual 200, 3) := by decide +kernel
theorem dX5_slotOnTrial_9 : decode cX5_slotOnTrial 9 = .ok (.ifCond .eq 21, 3) := by decide +kernel
theorem dX5_slotOnTrial_12 : decode cX5_slotOnTrial 12 = .ok (.aload_n 0, 1) := by decide +kernel
theorem dX5_slotOnTrial_13 : decode cX5_slotOnTrial 13 = .ok (.getfield 28, 3) := by decide +kernel
theorem dX5_slotOnTrial_16 : decode cX5_slotOnTrial 16 = .ok (.aload_n 0, 1) := by decide +kernel
theorem dX5_slotOnTrial_17 : decode cX5_slotOnTrial 17 = .ok (.getfield 12, 3) := by decide +kernel
theorem dX5_slotOnTrial_20 : decode cX5_slotOnTrial 20 = .ok (.invokevirtual 274, 3) := by decide +kernel
theorem dX5_slotOnTrial_23 : decode cX5_slotOnTrial 23 = .ok (.ifCond .eq 7, 3) := by decide +kernel
theorem dX5_slotOnTrial_26 : decode cX5_slotOnTrial 26 = .ok (.iconst 1, 1) := by decide +kernel
theorem dX5_slotOnTrial_27 : decode cX5_slotOnTrial 27 = .ok (.goto 4, 3) := by decide +kernel
theorem dX5_slotOnTrial_30 : decode cX5_slotOnTrial 30 = .ok (.iconst 0, 1) := by decide +kernel
theorem dX5_slotOnTrial_31 : decode cX5_slotOnTrial 31 = .ok (.aload_n 0, 1) := by decide +kernel
theorem dX5_slotOnTrial_32 : decode cX5_slotOnTrial 32 = .ok (.aload_n 0, 1) := by decide +kernel
theorem dX5_slotOnTrial_33 : decode cX5_slotOnTrial 33 = .ok (.getfield 32, 3) := by decide +kernel
theorem dX5_slotOnTrial_36 : decode cX5_slotOnTrial 36 = .ok (.invokevirtual 200, 3) := by decide +kernel
theorem dX5_slotOnTrial_39 : decode cX5_slotOnTrial 39 = .ok (.ifCond .eq 21, 3) := by decide +kernel
theorem dX5_slotOnTrial_42 : decode cX5_slotOnTrial 42 = .ok (.aload_n 0, 1) := by decide +kernel
theorem dX5_slotOnTrial_43 : decode cX5_slotOnTrial 43 = .ok (.getfield 32, 3) := by decide +kernel
theorem dX5_slotOnTrial_46 : decode cX5_slotOnTrial 46 = .ok (.aload_n 0, 1) := by decide +kernel
theorem dX5_slotOnTrial_47 : decode cX5_slotOnTrial 47 = .ok (.getfield 12, 3) := by decide +kernel
theorem dX5_slotOnTrial_50 : decode cX5_slotOnTrial 50 = .ok (.invokevirtual 274, 3) := by decide +kernel
theorem dX5_slotOnTrial_53 : decode cX5_slotOnTrial 53 = .ok (.ifCond .eq 7, 3) := by decide +kernel
theorem dX5_slotOnTrial_56 : decode cX5_slotOnTrial 56 = .ok (.iconst 1, 1) := by decide +kernel
theorem dX5_slotOnTrial_57 : decode cX5_slotOnTrial 57 = .ok (.goto 4, 3) := by decide +kernel
theorem dX5_slotOnTrial_60 : decode cX5_slotOnTrial 60 = .ok (.iconst 0, 1) := by decide +kernel
theorem dX5_slotOnTrial_61 : decode cX5_slotOnTrial 61 = .ok (.invokevirtual 277, 3) := by decide +kernel
theorem dX5_slotOnTrial_64 : decode cX5_slotOnTrial 64 = .ok (.ireturn, 1) := by decide +kernel
set_option maxRecDepth 20000 in
theorem ggX5_slotConfirmed_X5_isGood : GoodIn wsX5_slotConfirmed wsX5_isGood := goodIn_r _ [8, 2, 9, 10, 11, 7, 12, 13, 14, 15, 16, 17, 18, 19, 20, 21, 22, 23, 24, 25, 26, 27, 28, 29, 30, 31, 32, 33, 34, 35, 36, 37, 38, 39, 40, 41, 42, 43, 44, 45, 46, 47, 48, 49, 50, 51, 52, 53, 54, 55, 56, 57, 58, 59, 60, 61, 62, 63, 73, 74, 75, 76, 77, 78, 79, 80, 81, 82, 83, 84, 85, 86, 87, 88, 89, 90] (by decide +kernel) (by decide +kernel)
set_option maxRecDepth 20000 in
theorem gX5_slotConfirmed_X5_isGood : GoodIn wsX5_slotConfirmed (wsV RX5 200 RX5 yX5_isGood wsX5_isGood) := goodIn_app (goodIn_of _ (by decide +kernel)) ggX5_slotConfirmed_X5_isGood
set_option maxRecDepth 20000 in
theorem ggX5_slotConfirmed_X3_isConfirmed : GoodIn wsX5_slotConfirmed wsX3_isConfirmed := goodIn_r _ [67, 36, 37, 14, 15, 16, 17, 18, 88, 89, 90, 82, 83, 84, 85, 86, 87] (by decide +kernel) (by decide +kernel)
set_option maxRecDepth 20000 in
theorem gX5_slotConfirmed_X3_isConfirmed : GoodIn wsX5_slotConfirmed (wsV RX5 176 RX3 yX3_isConfirmed wsX3_isConfirmed) := goodIn_app (goodIn_of _ (by decide +kernel)) ggX5_slotConfirmed_X3_isConfirmed
set_option maxRecDepth 20000 in
theorem ggX5_slotConfirmed_X5_later : GoodIn wsX5_slotConfirmed wsX5_later := goodIn_r _ [71, 3, 2, 1, 72, 45, 46, 29, 47, 36, 37, 14, 15, 16, 17, 18, 73, 74, 75, 76, 77, 78, 79, 80, 81, 88, 89, 90, 82, 83, 84, 85, 86, 87] (by decide +kernel) (by decide +kernel)
set_option maxRecDepth 20000 in
theorem gX5_slotConfirmed_X5_later : GoodIn wsX5_slotConfirmed (wsV RX5 277 RX5 yX5_later wsX5_later) := goodIn_app (goodIn_of _ (by decide +kernel)) ggX5_slotConfirmed_X5_later
theorem dX5_slotConfirmed_0 : decode cX5_slotConfirmed 0 = .ok (.aload_n 0, 1) := by decide +kernel
theorem dX5_slotConfirmed_1 : decode cX5_slotConfirmed 1 = .ok (.aload_n 0, 1) := by decide +kernel
theorem dX5_slotConfirmed_2 : decode cX5_slotConfirmed 2 = .ok (.aload_n 0, 1) := by decide +kernel
theorem dX5_slotConfirmed_3 : decode cX5_slotConfirmed 3 = .ok (.getfield 28, 3) := by decide +kernel
theorem dX5_slotConfirmed_6 : decode cX5_slotConfirmed 6 = .ok (.invokevirtual 200, 3) := by decide +kernel
theorem dX5_slotConfirmed_9 : decode cX5_slotConfirmed 9 = .ok (.ifCond .eq 21, 3) := by decide +kernel
theorem dX5_slotConfirmed_12 : decode cX5_slotConfirmed 12 = .ok (.aload_n 0, 1) := by decide +kernel
theorem dX5_slotConfirmed_13 : decode cX5_slotConfirmed 13 = .ok (.getfield 28, 3) := by decide +kernel
theorem dX5_slotConfirmed_16 : decode cX5_slotConfirmed 16 = .ok (.aload_n 0, 1) := by decide +kernel
theorem dX5_slotConfirmed_17 : decode cX5_slotConfirmed 17 = .ok (.getfield 12, 3) := by decide +kernel
theorem dX5_slotConfirmed_20 : decode cX5_slotConfirmed 20 = .ok (.invokevirtual 176, 3) := by decide +kernel
theorem dX5_slotConfirmed_23 : decode cX5_slotConfirmed 23 = .ok (.ifCond .eq 7, 3) := by decide +kernel
theorem dX5_slotConfirmed_26 : decode cX5_slotConfirmed 26 = .ok (.iconst 1, 1) := by decide +kernel
theorem dX5_slotConfirmed_27 : decode cX5_slotConfirmed 27 = .ok (.goto 4, 3) := by decide +kernel
theorem dX5_slotConfirmed_30 : decode cX5_slotConfirmed 30 = .ok (.iconst 0, 1) := by decide +kernel
theorem dX5_slotConfirmed_31 : decode cX5_slotConfirmed 31 = .ok (.aload_n 0, 1) := by decide +kernel
theorem dX5_slotConfirmed_32 : decode cX5_slotConfirmed 32 = .ok (.aload_n 0, 1) := by decide +kernel
theorem dX5_slotConfirmed_33 : decode cX5_slotConfirmed 33 = .ok (.getfield 32, 3) := by decide +kernel
theorem dX5_slotConfirmed_36 : decode cX5_slotConfirmed 36 = .ok (.invokevirtual 200, 3) := by decide +kernel
theorem dX5_slotConfirmed_39 : decode cX5_slotConfirmed 39 = .ok (.ifCond .eq 21, 3) := by decide +kernel
theorem dX5_slotConfirmed_42 : decode cX5_slotConfirmed 42 = .ok (.aload_n 0, 1) := by decide +kernel
theorem dX5_slotConfirmed_43 : decode cX5_slotConfirmed 43 = .ok (.getfield 32, 3) := by decide +kernel
theorem dX5_slotConfirmed_46 : decode cX5_slotConfirmed 46 = .ok (.aload_n 0, 1) := by decide +kernel
theorem dX5_slotConfirmed_47 : decode cX5_slotConfirmed 47 = .ok (.getfield 12, 3) := by decide +kernel
theorem dX5_slotConfirmed_50 : decode cX5_slotConfirmed 50 = .ok (.invokevirtual 176, 3) := by decide +kernel
theorem dX5_slotConfirmed_53 : decode cX5_slotConfirmed 53 = .ok (.ifCond .eq 7, 3) := by decide +kernel
theorem dX5_slotConfirmed_56 : decode cX5_slotConfirmed 56 = .ok (.iconst 1, 1) := by decide +kernel
theorem dX5_slotConfirmed_57 : decode cX5_slotConfirmed 57 = .ok (.goto 4, 3) := by decide +kernel
theorem dX5_slotConfirmed_60 : decode cX5_slotConfirmed 60 = .ok (.iconst 0, 1) := by decide +kernel
theorem dX5_slotConfirmed_61 : decode cX5_slotConfirmed 61 = .ok (.invokevirtual 277, 3) := by decide +kernel
theorem dX5_slotConfirmed_64 : decode cX5_slotConfirmed 64 = .ok (.ireturn, 1) := by decide +kernel
set_option maxRecDepth 20000 in
theorem ggX5_isGood_X5_counter : GoodIn wsX5_isGood wsX5_counter := goodIn_r _ [6, 1, 7, 8, 9, 10, 11, 12, 13, 14, 15, 16, 17, 18, 19, 58, 59, 60, 61, 62, 63, 64, 65, 66, 67, 68, 69, 70, 71, 72] (by decide +kernel) (by decide +kernel)
set_option maxRecDepth 20000 in
theorem gX5_isGood_X5_counter : GoodIn wsX5_isGood (wsV RX5 223 RX5 yX5_counter wsX5_counter) := goodIn_app (goodIn_of _ (by decide +kernel)) ggX5_isGood_X5_counter
set_option maxRecDepth 20000 in
theorem ggX5_isGood_X3_isGood : GoodIn wsX5_isGood wsX3_isGood := goodIn_r _ [24, 25, 26, 27, 28, 23, 29, 30, 31, 8, 9, 10, 11, 12, 32, 33, 34, 35, 36, 5, 37, 38, 39, 40, 41, 42, 43, 44, 45, 46, 47, 48, 49, 50, 51, 52, 53, 54, 55, 56, 57, 73, 74, 75, 67, 68, 69, 70, 71, 72] (by decide +kernel) (by decide +kernel)
set_option maxRecDepth 20000 in
theorem gX5_isGood_X3_isGood : GoodIn wsX5_isGood (wsV RX5 281 RX3 yX3_isGood wsX3_isGood) := goodIn_app (goodIn_of _ (by decide +kernel)) ggX5_isGood_X3_isGood
theorem dX5_isGood_0 : decode cX5_isGood 0 = .ok (.aload_n 1, 1) := by decide +kernel
theorem dX5_isGood_1 : decode cX5_isGood 1 = .ok (.aload_n 0, 1) := by decide +kernel
theorem dX5_isGood_2 : decode cX5_isGood 2 = .ok (.getfield 12, 3) := by decide +kernel
theorem dX5_isGood_5 : decode cX5_isGood 5 = .ok (.aload_n 0, 1) := by decide +kernel
theorem dX5_isGood_6 : decode cX5_isGood 6 = .ok (.invokevirtual 223, 3) := by decide +kernel
theorem dX5_isGood_9 : decode cX5_isGood 9 = .ok (.invokevirtual 281, 3) := by decide +kernel
theorem dX5_isGood_12 : decode cX5_isGood 12 = .ok (.ireturn, 1) := by decide +kernel
set_option maxRecDepth 20000 in
theorem ggX5_later_X3_sequence : GoodIn wsX5_later wsX3_sequence := goodIn_r _ [8, 9, 10, 11, 12, 13, 14, 15, 25, 26, 27, 28, 29, 30, 31, 32, 33] (by decide +kernel) (by decide +kernel)
set_option maxRecDepth 20000 in
theorem gX5_later_X3_sequence : GoodIn wsX5_later (wsV RX5 180 RX3 yX3_sequence wsX3_sequence) := goodIn_app (goodIn_of _ (by decide +kernel)) ggX5_later_X3_sequence
theorem dX5_later_0 : decode cX5_later 0 = .ok (.iload_n 2, 1) := by decide +kernel
theorem dX5_later_1 : decode cX5_later 1 = .ok (.ifCond .eq 34, 3) := by decide +kernel
theorem dX5_later_4 : decode cX5_later 4 = .ok (.iload_n 1, 1) := by decide +kernel
theorem dX5_later_5 : decode cX5_later 5 = .ok (.ifCond .eq 28, 3) := by decide +kernel
theorem dX5_later_8 : decode cX5_later 8 = .ok (.aload_n 0, 1) := by decide +kernel
theorem dX5_later_9 : decode cX5_later 9 = .ok (.getfield 32, 3) := by decide +kernel
theorem dX5_later_12 : decode cX5_later 12 = .ok (.aload_n 0, 1) := by decide +kernel
theorem dX5_later_13 : decode cX5_later 13 = .ok (.getfield 12, 3) := by decide +kernel
theorem dX5_later_16 : decode cX5_later 16 = .ok (.invokevirtual 180, 3) := by decide +kernel
theorem dX5_later_19 : decode cX5_later 19 = .ok (.aload_n 0, 1) := by decide +kernel
theorem dX5_later_20 : decode cX5_later 20 = .ok (.getfield 28, 3) := by decide +kernel
theorem dX5_later_23 : decode cX5_later 23 = .ok (.aload_n 0, 1) := by decide +kernel
theorem dX5_later_24 : decode cX5_later 24 = .ok (.getfield 12, 3) := by decide +kernel
theorem dX5_later_27 : decode cX5_later 27 = .ok (.invokevirtual 180, 3) := by decide +kernel
theorem dX5_later_30 : decode cX5_later 30 = .ok (.if_icmp .le 5, 3) := by decide +kernel
theorem dX5_later_33 : decode cX5_later 33 = .ok (.iconst 1, 1) := by decide +kernel
theorem dX5_later_34 : decode cX5_later 34 = .ok (.ireturn, 1) := by decide +kernel
theorem dX5_later_35 : decode cX5_later 35 = .ok (.iload_n 1, 1) := by decide +kernel
theorem dX5_later_36 : decode cX5_later 36 = .ok (.ifCond .eq 7, 3) := by decide +kernel
theorem dX5_later_39 : decode cX5_later 39 = .ok (.iconst 0, 1) := by decide +kernel
theorem dX5_later_40 : decode cX5_later 40 = .ok (.goto 5, 3) := by decide +kernel
theorem dX5_later_43 : decode cX5_later 43 = .ok (.bipush (-7), 2) := by decide +kernel
theorem dX5_later_45 : decode cX5_later 45 = .ok (.ireturn, 1) := by decide +kernel
set_option maxRecDepth 20000 in
theorem ggX5_raiseCounter_X5_counter : GoodIn wsX5_raiseCounter wsX5_counter := goodIn_r _ [5, 6, 7, 8, 9, 10, 11, 12, 13, 14, 15, 16, 17, 18, 19, 42, 43, 44, 45, 46, 47, 48, 49, 50, 51, 52, 53, 54, 55, 56] (by decide +kernel) (by decide +kernel)
set_option maxRecDepth 20000 in
theorem gX5_raiseCounter_X5_counter : GoodIn wsX5_raiseCounter (wsV RX5 223 RX5 yX5_counter wsX5_counter) := goodIn_app (goodIn_of _ (by decide +kernel)) ggX5_raiseCounter_X5_counter
set_option maxRecDepth 20000 in
theorem ggX5_raiseCounter_X5_clearCounterBit : GoodIn wsX5_raiseCounter wsX5_clearCounterBit := goodIn_r _ [23, 6, 7, 8, 9, 10, 11, 12, 24, 25, 26, 27, 28, 29, 30, 31, 32, 33, 34, 35, 36, 37, 38, 39, 40, 41, 42, 43, 44, 45, 46, 47, 48, 49, 50, 51, 52, 53, 54, 55, 56] (by decide +kernel) (by decide +kernel)
set_option maxRecDepth 20000 in
theorem gX5_raiseCounter_X5_clearCounterBit : GoodIn wsX5_raiseCounter (wsV RX5 284 RX5 yX5_clearCounterBit wsX5_clearCounterBit) := goodIn_app (goodIn_of _ (by decide +kernel)) ggX5_raiseCounter_X5_clearCounterBit
theorem dX5_raiseCounter_0 : decode cX5_raiseCounter 0 = .ok (.aload_n 0, 1) := by decide +kernel
theorem dX5_raiseCounter_1 : decode cX5_raiseCounter 1 = .ok (.invokevirtual 223, 3) := by decide +kernel
theorem dX5_raiseCounter_4 : decode cX5_raiseCounter 4 = .ok (.istore_n 2, 1) := by decide +kernel
theorem dX5_raiseCounter_5 : decode cX5_raiseCounter 5 = .ok (.iload_n 2, 1) := by decide +kernel
theorem dX5_raiseCounter_6 : decode cX5_raiseCounter 6 = .ok (.iload_n 1, 1) := by decide +kernel
theorem dX5_raiseCounter_7 : decode cX5_raiseCounter 7 = .ok (.if_icmp .ge 13, 3) := by decide +kernel
theorem dX5_raiseCounter_10 : decode cX5_raiseCounter 10 = .ok (.aload_n 0, 1) := by decide +kernel
theorem dX5_raiseCounter_11 : decode cX5_raiseCounter 11 = .ok (.invokevirtual 284, 3) := by decide +kernel
theorem dX5_raiseCounter_14 : decode cX5_raiseCounter 14 = .ok (.iinc 2 1, 3) := by decide +kernel
theorem dX5_raiseCounter_17 : decode cX5_raiseCounter 17 = .ok (.goto (-12), 3) := by decide +kernel
theorem dX5_raiseCounter_20 : decode cX5_raiseCounter 20 = .ok (.return_, 1) := by decide +kernel
set_option maxRecDepth 20000 in
theorem ggX5_clearCounterBit_X0_at : GoodIn wsX5_clearCounterBit wsX0_at := goodIn_r _ [6, 7, 35, 36, 37, 38, 39, 40] (by decide +kernel) (by decide +kernel)
set_option maxRecDepth 20000 in
theorem gX5_clearCounterBit_X0_at : GoodIn wsX5_clearCounterBit (wsV RX5 189 RX0 yX0_at wsX0_at) := goodIn_app (goodIn_of _ (by decide +kernel)) ggX5_clearCounterBit_X0_at
set_option maxRecDepth 20000 in
theorem ggX5_clearCounterBit_X0_programLowestBit : GoodIn wsX5_clearCounterBit wsX0_programLowestBit := goodIn_r _ [11, 12, 3, 4, 5, 6, 7, 13, 14, 15, 16, 17, 18, 19, 20, 21, 22, 23, 24, 25, 35, 36, 37, 38, 39, 40] (by decide +kernel) (by decide +kernel)
set_option maxRecDepth 20000 in
theorem gX5_clearCounterBit_X0_programLowestBit : GoodIn wsX5_clearCounterBit (wsV RX5 287 RX0 yX0_programLowestBit wsX0_programLowestBit) := goodIn_app (goodIn_of _ (by decide +kernel)) ggX5_clearCounterBit_X0_programLowestBit
theorem dX5_clearCounterBit_0 : decode cX5_clearCounterBit 0 = .ok (.sipush 704, 3) := by decide +kernel
theorem dX5_clearCounterBit_3 : decode cX5_clearCounterBit 3 = .ok (.istore_n 1, 1) := by decide +kernel
theorem dX5_clearCounterBit_4 : decode cX5_clearCounterBit 4 = .ok (.iload_n 1, 1) := by decide +kernel
theorem dX5_clearCounterBit_5 : decode cX5_clearCounterBit 5 = .ok (.sipush 736, 3) := by decide +kernel
theorem dX5_clearCounterBit_8 : decode cX5_clearCounterBit 8 = .ok (.if_icmp .ge 29, 3) := by decide +kernel
theorem dX5_clearCounterBit_11 : decode cX5_clearCounterBit 11 = .ok (.aload_n 0, 1) := by decide +kernel
theorem dX5_clearCounterBit_12 : decode cX5_clearCounterBit 12 = .ok (.getfield 12, 3) := by decide +kernel
theorem dX5_clearCounterBit_15 : decode cX5_clearCounterBit 15 = .ok (.iload_n 1, 1) := by decide +kernel
theorem dX5_clearCounterBit_16 : decode cX5_clearCounterBit 16 = .ok (.invokevirtual 189, 3) := by decide +kernel
theorem dX5_clearCounterBit_19 : decode cX5_clearCounterBit 19 = .ok (.ifCond .eq 12, 3) := by decide +kernel
theorem dX5_clearCounterBit_22 : decode cX5_clearCounterBit 22 = .ok (.aload_n 0, 1) := by decide +kernel
theorem dX5_clearCounterBit_23 : decode cX5_clearCounterBit 23 = .ok (.getfield 12, 3) := by decide +kernel
theorem dX5_clearCounterBit_26 : decode cX5_clearCounterBit 26 = .ok (.iload_n 1, 1) := by decide +kernel
theorem dX5_clearCounterBit_27 : decode cX5_clearCounterBit 27 = .ok (.invokevirtual 287, 3) := by decide +kernel
theorem dX5_clearCounterBit_30 : decode cX5_clearCounterBit 30 = .ok (.return_, 1) := by decide +kernel
theorem dX5_clearCounterBit_31 : decode cX5_clearCounterBit 31 = .ok (.iinc 1 1, 3) := by decide +kernel
theorem dX5_clearCounterBit_34 : decode cX5_clearCounterBit 34 = .ok (.goto (-30), 3) := by decide +kernel
theorem dX5_clearCounterBit_37 : decode cX5_clearCounterBit 37 = .ok (.return_, 1) := by decide +kernel
set_option maxRecDepth 20000 in
theorem ggX5_digest_X5_digestByte : GoodIn wsX5_digest wsX5_digestByte := goodIn_r _ [4, 5] (by decide +kernel) (by decide +kernel)
set_option maxRecDepth 20000 in
theorem gX5_digest_X5_digestByte : GoodIn wsX5_digest (va_wsS RX5 290 yX5_digestByte wsX5_digestByte) := goodIn_app (goodIn_of _ (by decide +kernel)) ggX5_digest_X5_digestByte
end
section
theorem dX5_digest_0 : decode cX5_digest 0 = .ok (.iload_n 0, 1) := by decide +kernel
theorem dX5_digest_1 : decode cX5_digest 1 = .ok (.istore_n 3, 1) := by decide +kernel
theorem dX5_digest_2 : decode cX5_digest 2 = .ok (.iconst 0, 1) := by decide +kernel
theorem dX5_digest_3 : decode cX5_digest 3 = .ok (.istore 4, 2) := by decide +kernel
theorem dX5_digest_5 : decode cX5_digest 5 = .ok (.iload 4, 2) := by decide +kernel
theorem dX5_digest_7 : decode cX5_digest 7 = .ok (.iload_n 2, 1) := by decide +kernel
theorem dX5_digest_8 : decode cX5_digest 8 = .ok (.if_icmp .ge 25, 3) := by decide +kernel
theorem dX5_digest_11 : decode cX5_digest 11 = .ok (.iload 4, 2) := by decide +kernel
theorem dX5_digest_13 : decode cX5_digest 13 = .ok (.aload_n 1, 1) := by decide +kernel
theorem dX5_digest_14 : decode cX5_digest 14 = .ok (.arraylength, 1) := by decide +kernel
theorem dX5_digest_15 : decode cX5_digest 15 = .ok (.if_icmp .ge 18, 3) := by decide +kernel
theorem dX5_digest_18 : decode cX5_digest 18 = .ok (.iload_n 3, 1) := by decide +kernel
theorem dX5_digest_19 : decode cX5_digest 19 = .ok (.aload_n 1, 1) := by decide +kernel
theorem dX5_digest_20 : decode cX5_digest 20 = .ok (.iload 4, 2) := by decide +kernel
theorem dX5_digest_22 : decode cX5_digest 22 = .ok (.iaload, 1) := by decide +kernel
theorem dX5_digest_23 : decode cX5_digest 23 = .ok (.invokestatic 290, 3) := by decide +kernel
theorem dX5_digest_26 : decode cX5_digest 26 = .ok (.istore_n 3, 1) := by decide +kernel
theorem dX5_digest_27 : decode cX5_digest 27 = .ok (.iinc 4 1, 3) := by decide +kernel
theorem dX5_digest_30 : decode cX5_digest 30 = .ok (.goto (-25), 3) := by decide +kernel
theorem dX5_digest_33 : decode cX5_digest 33 = .ok (.iload_n 3, 1) := by decide +kernel
theorem dX5_digest_34 : decode cX5_digest 34 = .ok (.ireturn, 1) := by decide +kernel
theorem dX5_digestByte_0 : decode cX5_digestByte 0 = .ok (.iload_n 0, 1) := by decide +kernel
theorem dX5_digestByte_1 : decode cX5_digestByte 1 = .ok (.iload_n 1, 1) := by decide +kernel
theorem dX5_digestByte_2 : decode cX5_digestByte 2 = .ok (.ixor, 1) := by decide +kernel
theorem dX5_digestByte_3 : decode cX5_digestByte 3 = .ok (.ldc_w 293, 3) := by decide +kernel
theorem dX5_digestByte_6 : decode cX5_digestByte 6 = .ok (.imul, 1) := by decide +kernel
theorem dX5_digestByte_7 : decode cX5_digestByte 7 = .ok (.istore_n 2, 1) := by decide +kernel
theorem dX5_digestByte_8 : decode cX5_digestByte 8 = .ok (.iload_n 2, 1) := by decide +kernel
theorem dX5_digestByte_9 : decode cX5_digestByte 9 = .ok (.bipush 7, 2) := by decide +kernel
theorem dX5_digestByte_11 : decode cX5_digestByte 11 = .ok (.ishl, 1) := by decide +kernel
theorem dX5_digestByte_12 : decode cX5_digestByte 12 = .ok (.iload_n 2, 1) := by decide +kernel
theorem dX5_digestByte_13 : decode cX5_digestByte 13 = .ok (.bipush 25, 2) := by decide +kernel
theorem dX5_digestByte_15 : decode cX5_digestByte 15 = .ok (.iushr, 1) := by decide +kernel
theorem dX5_digestByte_16 : decode cX5_digestByte 16 = .ok (.ior, 1) := by decide +kernel
theorem dX5_digestByte_17 : decode cX5_digestByte 17 = .ok (.bipush 97, 2) := by decide +kernel
theorem dX5_digestByte_19 : decode cX5_digestByte 19 = .ok (.iadd, 1) := by decide +kernel
theorem dX5_digestByte_20 : decode cX5_digestByte 20 = .ok (.ireturn, 1) := by decide +kernel
theorem dX5_byteOfWord_0 : decode cX5_byteOfWord 0 = .ok (.iload_n 0, 1) := by decide +kernel
theorem dX5_byteOfWord_1 : decode cX5_byteOfWord 1 = .ok (.bipush 24, 2) := by decide +kernel
theorem dX5_byteOfWord_3 : decode cX5_byteOfWord 3 = .ok (.bipush 8, 2) := by decide +kernel
theorem dX5_byteOfWord_5 : decode cX5_byteOfWord 5 = .ok (.iload_n 1, 1) := by decide +kernel
theorem dX5_byteOfWord_6 : decode cX5_byteOfWord 6 = .ok (.imul, 1) := by decide +kernel
theorem dX5_byteOfWord_7 : decode cX5_byteOfWord 7 = .ok (.isub, 1) := by decide +kernel
theorem dX5_byteOfWord_8 : decode cX5_byteOfWord 8 = .ok (.iushr, 1) := by decide +kernel
theorem dX5_byteOfWord_9 : decode cX5_byteOfWord 9 = .ok (.sipush 255, 3) := by decide +kernel
theorem dX5_byteOfWord_12 : decode cX5_byteOfWord 12 = .ok (.iand, 1) := by decide +kernel
theorem dX5_byteOfWord_13 : decode cX5_byteOfWord 13 = .ok (.ireturn, 1) := by decide +kernel
set_option maxRecDepth 20000 in
theorem ggX5_rowOfWords_X5_byteOfWord : GoodIn wsX5_rowOfWords wsX5_byteOfWord := goodIn_r _ [5] (by decide +kernel) (by decide +kernel)
set_option maxRecDepth 20000 in
theorem gX5_rowOfWords_X5_byteOfWord : GoodIn wsX5_rowOfWords (va_wsS RX5 294 yX5_byteOfWord wsX5_byteOfWord) := goodIn_app (goodIn_of _ (by decide +kernel)) ggX5_rowOfWords_X5_byteOfWord
theorem dX5_rowOfWords_0 : decode cX5_rowOfWords 0 = .ok (.bipush 8, 2) := by decide +kernel
theorem dX5_rowOfWords_2 : decode cX5_rowOfWords 2 = .ok (.newarray .int, 2) := by decide +kernel
theorem dX5_rowOfWords_4 : decode cX5_rowOfWords 4 = .ok (.astore_n 2, 1) := by decide +kernel
theorem dX5_rowOfWords_5 : decode cX5_rowOfWords 5 = .ok (.iconst 0, 1) := by decide +kernel
theorem dX5_rowOfWords_6 : decode cX5_rowOfWords 6 = .ok (.istore_n 3, 1) := by decide +kernel
theorem dX5_rowOfWords_7 : decode cX5_rowOfWords 7 = .ok (.iload_n 3, 1) := by decide +kernel
theorem dX5_rowOfWords_8 : decode cX5_rowOfWords 8 = .ok (.iconst 4, 1) := by decide +kernel
theorem dX5_rowOfWords_9 : decode cX5_rowOfWords 9 = .ok (.if_icmp .ge 27, 3) := by decide +kernel
theorem dX5_rowOfWords_12 : decode cX5_rowOfWords 12 = .ok (.aload_n 2, 1) := by decide +kernel
theorem dX5_rowOfWords_13 : decode cX5_rowOfWords 13 = .ok (.iload_n 3, 1) := by decide +kernel
theorem dX5_rowOfWords_14 : decode cX5_rowOfWords 14 = .ok (.iload_n 0, 1) := by decide +kernel
theorem dX5_rowOfWords_15 : decode cX5_rowOfWords 15 = .ok (.iload_n 3, 1) := by decide +kernel
theorem dX5_rowOfWords_16 : decode cX5_rowOfWords 16 = .ok (.invokestatic 294, 3) := by decide +kernel
theorem dX5_rowOfWords_19 : decode cX5_rowOfWords 19 = .ok (.iastore, 1) := by decide +kernel
theorem dX5_rowOfWords_20 : decode cX5_rowOfWords 20 = .ok (.aload_n 2, 1) := by decide +kernel
theorem dX5_rowOfWords_21 : decode cX5_rowOfWords 21 = .ok (.iload_n 3, 1) := by decide +kernel
theorem dX5_rowOfWords_22 : decode cX5_rowOfWords 22 = .ok (.iconst 4, 1) := by decide +kernel
theorem dX5_rowOfWords_23 : decode cX5_rowOfWords 23 = .ok (.iadd, 1) := by decide +kernel
theorem dX5_rowOfWords_24 : decode cX5_rowOfWords 24 = .ok (.iload_n 1, 1) := by decide +kernel
theorem dX5_rowOfWords_25 : decode cX5_rowOfWords 25 = .ok (.iload_n 3, 1) := by decide +kernel
theorem dX5_rowOfWords_26 : decode cX5_rowOfWords 26 = .ok (.invokestatic 294, 3) := by decide +kernel
theorem dX5_rowOfWords_29 : decode cX5_rowOfWords 29 = .ok (.iastore, 1) := by decide +kernel
theorem dX5_rowOfWords_30 : decode cX5_rowOfWords 30 = .ok (.iinc 3 1, 3) := by decide +kernel
theorem dX5_rowOfWords_33 : decode cX5_rowOfWords 33 = .ok (.goto (-26), 3) := by decide +kernel
theorem dX5_rowOfWords_36 : decode cX5_rowOfWords 36 = .ok (.aload_n 2, 1) := by decide +kernel
theorem dX5_rowOfWords_37 : decode cX5_rowOfWords 37 = .ok (.areturn, 1) := by decide +kernel
theorem dX6_init_0 : decode cX6_init 0 = .ok (.aload_n 0, 1) := by decide +kernel
theorem dX6_init_1 : decode cX6_init 1 = .ok (.invokespecial 1, 3) := by decide +kernel
theorem dX6_init_4 : decode cX6_init 4 = .ok (.aload_n 0, 1) := by decide +kernel
theorem dX6_init_5 : decode cX6_init 5 = .ok (.sipush 768, 3) := by decide +kernel
theorem dX6_init_8 : decode cX6_init 8 = .ok (.newarray .int, 2) := by decide +kernel
theorem dX6_init_10 : decode cX6_init 10 = .ok (.putfield 7, 3) := by decide +kernel
theorem dX6_init_13 : decode cX6_init 13 = .ok (.aload_n 0, 1) := by decide +kernel
theorem dX6_init_14 : decode cX6_init 14 = .ok (.bipush 8, 2) := by decide +kernel
theorem dX6_init_16 : decode cX6_init 16 = .ok (.newarray .int, 2) := by decide +kernel
theorem dX6_init_18 : decode cX6_init 18 = .ok (.putfield 13, 3) := by decide +kernel
theorem dX6_init_21 : decode cX6_init 21 = .ok (.aload_n 0, 1) := by decide +kernel
theorem dX6_init_22 : decode cX6_init 22 = .ok (.sipush 192, 3) := by decide +kernel
theorem dX6_init_25 : decode cX6_init 25 = .ok (.newarray .int, 2) := by decide +kernel
theorem dX6_init_27 : decode cX6_init 27 = .ok (.putfield 16, 3) := by decide +kernel
theorem dX6_init_30 : decode cX6_init 30 = .ok (.aload_n 0, 1) := by decide +kernel
theorem dX6_init_31 : decode cX6_init 31 = .ok (.iconst 1, 1) := by decide +kernel
theorem dX6_init_32 : decode cX6_init 32 = .ok (.putfield 19, 3) := by decide +kernel
theorem dX6_init_35 : decode cX6_init 35 = .ok (.aload_n 0, 1) := by decide +kernel
theorem dX6_init_36 : decode cX6_init 36 = .ok (.bipush (-7), 2) := by decide +kernel
theorem dX6_init_38 : decode cX6_init 38 = .ok (.putfield 23, 3) := by decide +kernel
theorem dX6_init_41 : decode cX6_init 41 = .ok (.aload_n 0, 1) := by decide +kernel
theorem dX6_init_42 : decode cX6_init 42 = .ok (.iconst (-1), 1) := by decide +kernel
theorem dX6_init_43 : decode cX6_init 43 = .ok (.putfield 27, 3) := by decide +kernel
theorem dX6_init_46 : decode cX6_init 46 = .ok (.aload_n 0, 1) := by decide +kernel
theorem dX6_init_47 : decode cX6_init 47 = .ok (.sipush 192, 3) := by decide +kernel
theorem dX6_init_50 : decode cX6_init 50 = .ok (.newarray .int, 2) := by decide +kernel
theorem dX6_init_52 : decode cX6_init 52 = .ok (.putfield 30, 3) := by decide +kernel
theorem dX6_init_55 : decode cX6_init 55 = .ok (.iconst 0, 1) := by decide +kernel
theorem dX6_init_56 : decode cX6_init 56 = .ok (.istore 4, 2) := by decide +kernel
theorem dX6_init_58 : decode cX6_init 58 = .ok (.iload 4, 2) := by decide +kernel
theorem dX6_init_60 : decode cX6_init 60 = .ok (.iconst 4, 1) := by decide +kernel
theorem dX6_init_61 : decode cX6_init 61 = .ok (.if_icmp .ge 53, 3) := by decide +kernel
theorem dX6_init_64 : decode cX6_init 64 = .ok (.aload_n 0, 1) := by decide +kernel
theorem dX6_init_65 : decode cX6_init 65 = .ok (.getfield 13, 3) := by decide +kernel
theorem dX6_init_68 : decode cX6_init 68 = .ok (.iload 4, 2) := by decide +kernel
theorem dX6_init_70 : decode cX6_init 70 = .ok (.iload_n 1, 1) := by decide +kernel
theorem dX6_init_71 : decode cX6_init 71 = .ok (.bipush 24, 2) := by decide +kernel
theorem dX6_init_73 : decode cX6_init 73 = .ok (.bipush 8, 2) := by decide +kernel
theorem dX6_init_75 : decode cX6_init 75 = .ok (.iload 4, 2) := by decide +kernel
theorem dX6_init_77 : decode cX6_init 77 = .ok (.imul, 1) := by decide +kernel
theorem dX6_init_78 : decode cX6_init 78 = .ok (.isub, 1) := by decide +kernel
theorem dX6_init_79 : decode cX6_init 79 = .ok (.ishr, 1) := by decide +kernel
theorem dX6_init_80 : decode cX6_init 80 = .ok (.sipush 255, 3) := by decide +kernel
theorem dX6_init_83 : decode cX6_init 83 = .ok (.iand, 1) := by decide +kernel
theorem dX6_init_84 : decode cX6_init 84 = .ok (.iastore, 1) := by decide +kernel
theorem dX6_init_85 : decode cX6_init 85 = .ok (.aload_n 0, 1) := by decide +kernel
theorem dX6_init_86 : decode cX6_init 86 = .ok (.getfield 13, 3) := by decide +kernel
theorem dX6_init_89 : decode cX6_init 89 = .ok (.iconst 4, 1) := by decide +kernel
theorem dX6_init_90 : decode cX6_init 90 = .ok (.iload 4, 2) := by decide +kernel
theorem dX6_init_92 : decode cX6_init 92 = .ok (.iadd, 1) := by decide +kernel
theorem dX6_init_93 : decode cX6_init 93 = .ok (.iload_n 2, 1) := by decide +kernel
theorem dX6_init_94 : decode cX6_init 94 = .ok (.bipush 24, 2) := by decide +kernel
theorem dX6_init_96 : decode cX6_init 96 = .ok (.bipush 8, 2) := by decide +kernel
theorem dX6_init_98 : decode cX6_init 98 = .ok (.iload 4, 2) := by decide +kernel
theorem dX6_init_100 : decode cX6_init 100 = .ok (.imul, 1) := by decide +kernel
theorem dX6_init_101 : decode cX6_init 101 = .ok (.isub, 1) := by decide +kernel
theorem dX6_init_102 : decode cX6_init 102 = .ok (.ishr, 1) := by decide +kernel
theorem dX6_init_103 : decode cX6_init 103 = .ok (.sipush 255, 3) := by decide +kernel
theorem dX6_init_106 : decode cX6_init 106 = .ok (.iand, 1) := by decide +kernel
theorem dX6_init_107 : decode cX6_init 107 = .ok (.iastore, 1) := by decide +kernel
theorem dX6_init_108 : decode cX6_init 108 = .ok (.iinc 4 1, 3) := by decide +kernel
theorem dX6_init_111 : decode cX6_init 111 = .ok (.goto (-53), 3) := by decide +kernel
theorem dX6_init_114 : decode cX6_init 114 = .ok (.aload_n 0, 1) := by decide +kernel
theorem dX6_init_115 : decode cX6_init 115 = .ok (.iload_n 3, 1) := by decide +kernel
theorem dX6_init_116 : decode cX6_init 116 = .ok (.sipush 255, 3) := by decide +kernel
theorem dX6_init_119 : decode cX6_init 119 = .ok (.iand, 1) := by decide +kernel
theorem dX6_init_120 : decode cX6_init 120 = .ok (.putfield 33, 3) := by decide +kernel
theorem dX6_init_123 : decode cX6_init 123 = .ok (.iconst 0, 1) := by decide +kernel
theorem dX6_init_124 : decode cX6_init 124 = .ok (.istore 4, 2) := by decide +kernel
theorem dX6_init_126 : decode cX6_init 126 = .ok (.iload 4, 2) := by decide +kernel
theorem dX6_init_128 : decode cX6_init 128 = .ok (.sipush 768, 3) := by decide +kernel
theorem dX6_init_131 : decode cX6_init 131 = .ok (.if_icmp .ge 19, 3) := by decide +kernel
theorem dX6_init_134 : decode cX6_init 134 = .ok (.aload_n 0, 1) := by decide +kernel
theorem dX6_init_135 : decode cX6_init 135 = .ok (.getfield 7, 3) := by decide +kernel
theorem dX6_init_138 : decode cX6_init 138 = .ok (.iload 4, 2) := by decide +kernel
theorem dX6_init_140 : decode cX6_init 140 = .ok (.sipush 255, 3) := by decide +kernel
theorem dX6_init_143 : decode cX6_init 143 = .ok (.iastore, 1) := by decide +kernel
theorem dX6_init_144 : decode cX6_init 144 = .ok (.iinc 4 1, 3) := by decide +kernel
theorem dX6_init_147 : decode cX6_init 147 = .ok (.goto (-21), 3) := by decide +kernel
theorem dX6_init_150 : decode cX6_init 150 = .ok (.return_, 1) := by decide +kernel
theorem dX6_isWhole_0 : decode cX6_isWhole 0 = .ok (.aload_n 0, 1) := by decide +kernel
theorem dX6_isWhole_1 : decode cX6_isWhole 1 = .ok (.dup, 1) := by decide +kernel
theorem dX6_isWhole_2 : decode cX6_isWhole 2 = .ok (.getfield 39, 3) := by decide +kernel
theorem dX6_isWhole_5 : decode cX6_isWhole 5 = .ok (.iconst 1, 1) := by decide +kernel
theorem dX6_isWhole_6 : decode cX6_isWhole 6 = .ok (.iadd, 1) := by decide +kernel
theorem dX6_isWhole_7 : decode cX6_isWhole 7 = .ok (.putfield 39, 3) := by decide +kernel
theorem dX6_isWhole_10 : decode cX6_isWhole 10 = .ok (.aload_n 0, 1) := by decide +kernel
theorem dX6_isWhole_11 : decode cX6_isWhole 11 = .ok (.getfield 27, 3) := by decide +kernel
theorem dX6_isWhole_14 : decode cX6_isWhole 14 = .ok (.ifCond .eq 29, 3) := by decide +kernel
theorem dX6_isWhole_17 : decode cX6_isWhole 17 = .ok (.aload_n 0, 1) := by decide +kernel
theorem dX6_isWhole_18 : decode cX6_isWhole 18 = .ok (.aload_n 0, 1) := by decide +kernel
theorem dX6_isWhole_19 : decode cX6_isWhole 19 = .ok (.getfield 27, 3) := by decide +kernel
theorem dX6_isWhole_22 : decode cX6_isWhole 22 = .ok (.ifCond .le 12, 3) := by decide +kernel
theorem dX6_isWhole_25 : decode cX6_isWhole 25 = .ok (.aload_n 0, 1) := by decide +kernel
theorem dX6_isWhole_26 : decode cX6_isWhole 26 = .ok (.getfield 27, 3) := by decide +kernel
theorem dX6_isWhole_29 : decode cX6_isWhole 29 = .ok (.iconst 1, 1) := by decide +kernel
theorem dX6_isWhole_30 : decode cX6_isWhole 30 = .ok (.isub, 1) := by decide +kernel
theorem dX6_isWhole_31 : decode cX6_isWhole 31 = .ok (.goto 7, 3) := by decide +kernel
theorem dX6_isWhole_34 : decode cX6_isWhole 34 = .ok (.aload_n 0, 1) := by decide +kernel
theorem dX6_isWhole_35 : decode cX6_isWhole 35 = .ok (.getfield 27, 3) := by decide +kernel
theorem dX6_isWhole_38 : decode cX6_isWhole 38 = .ok (.putfield 27, 3) := by decide +kernel
theorem dX6_isWhole_41 : decode cX6_isWhole 41 = .ok (.iconst 1, 1) := by decide +kernel
theorem dX6_isWhole_42 : decode cX6_isWhole 42 = .ok (.ireturn, 1) := by decide +kernel
theorem dX6_isWhole_43 : decode cX6_isWhole 43 = .ok (.aload_n 0, 1) := by decide +kernel
theorem dX6_isWhole_44 : decode cX6_isWhole 44 = .ok (.iconst (-1), 1) := by decide +kernel
theorem dX6_isWhole_45 : decode cX6_isWhole 45 = .ok (.putfield 27, 3) := by decide +kernel
theorem dX6_isWhole_48 : decode cX6_isWhole 48 = .ok (.aload_n 0, 1) := by decide +kernel
theorem dX6_isWhole_49 : decode cX6_isWhole 49 = .ok (.iconst 0, 1) := by decide +kernel
theorem dX6_isWhole_50 : decode cX6_isWhole 50 = .ok (.putfield 19, 3) := by decide +kernel
theorem dX6_isWhole_53 : decode cX6_isWhole 53 = .ok (.aload_n 0, 1) := by decide +kernel
theorem dX6_isWhole_54 : decode cX6_isWhole 54 = .ok (.bipush (-7), 2) := by decide +kernel
theorem dX6_isWhole_56 : decode cX6_isWhole 56 = .ok (.putfield 23, 3) := by decide +kernel
theorem dX6_isWhole_59 : decode cX6_isWhole 59 = .ok (.iconst 0, 1) := by decide +kernel
theorem dX6_isWhole_60 : decode cX6_isWhole 60 = .ok (.ireturn, 1) := by decide +kernel
set_option maxRecDepth 20000 in
theorem ggX6_erase_X6_isWhole : GoodIn wsX6_erase wsX6_isWhole := goodIn_r _ [8, 9, 10, 1, 11, 12, 13, 14, 15, 16, 17, 18, 19, 20, 21, 22, 23, 24] (by decide +kernel) (by decide +kernel)
set_option maxRecDepth 20000 in
theorem gX6_erase_X6_isWhole : GoodIn wsX6_erase (wsV RX6 42 RX6 yX6_isWhole wsX6_isWhole) := goodIn_app (goodIn_of _ (by decide +kernel)) ggX6_erase_X6_isWhole
theorem dX6_erase_0 : decode cX6_erase 0 = .ok (.aload_n 0, 1) := by decide +kernel
theorem dX6_erase_1 : decode cX6_erase 1 = .ok (.getfield 19, 3) := by decide +kernel
theorem dX6_erase_4 : decode cX6_erase 4 = .ok (.ifCond .eq 50, 3) := by decide +kernel
theorem dX6_erase_7 : decode cX6_erase 7 = .ok (.aload_n 0, 1) := by decide +kernel
theorem dX6_erase_8 : decode cX6_erase 8 = .ok (.invokevirtual 42, 3) := by decide +kernel
theorem dX6_erase_11 : decode cX6_erase 11 = .ok (.ifCond .eq 8, 3) := by decide +kernel
theorem dX6_erase_14 : decode cX6_erase 14 = .ok (.bipush 32, 2) := by decide +kernel
theorem dX6_erase_16 : decode cX6_erase 16 = .ok (.goto 10, 3) := by decide +kernel
theorem dX6_erase_19 : decode cX6_erase 19 = .ok (.aload_n 0, 1) := by decide +kernel
theorem dX6_erase_20 : decode cX6_erase 20 = .ok (.getfield 46, 3) := by decide +kernel
theorem dX6_erase_23 : decode cX6_erase 23 = .ok (.bipush 32, 2) := by decide +kernel
theorem dX6_erase_25 : decode cX6_erase 25 = .ok (.irem, 1) := by decide +kernel
theorem dX6_erase_26 : decode cX6_erase 26 = .ok (.istore_n 2, 1) := by decide +kernel
theorem dX6_erase_27 : decode cX6_erase 27 = .ok (.iconst 0, 1) := by decide +kernel
theorem dX6_erase_28 : decode cX6_erase 28 = .ok (.istore_n 3, 1) := by decide +kernel
theorem dX6_erase_29 : decode cX6_erase 29 = .ok (.iload_n 3, 1) := by decide +kernel
theorem dX6_erase_30 : decode cX6_erase 30 = .ok (.iload_n 2, 1) := by decide +kernel
theorem dX6_erase_31 : decode cX6_erase 31 = .ok (.if_icmp .ge 23, 3) := by decide +kernel
theorem dX6_erase_34 : decode cX6_erase 34 = .ok (.aload_n 0, 1) := by decide +kernel
theorem dX6_erase_35 : decode cX6_erase 35 = .ok (.getfield 7, 3) := by decide +kernel
theorem dX6_erase_38 : decode cX6_erase 38 = .ok (.bipush 32, 2) := by decide +kernel
theorem dX6_erase_40 : decode cX6_erase 40 = .ok (.iload_n 1, 1) := by decide +kernel
theorem dX6_erase_41 : decode cX6_erase 41 = .ok (.imul, 1) := by decide +kernel
theorem dX6_erase_42 : decode cX6_erase 42 = .ok (.iload_n 3, 1) := by decide +kernel
theorem dX6_erase_43 : decode cX6_erase 43 = .ok (.iadd, 1) := by decide +kernel
theorem dX6_erase_44 : decode cX6_erase 44 = .ok (.sipush 255, 3) := by decide +kernel
theorem dX6_erase_47 : decode cX6_erase 47 = .ok (.iastore, 1) := by decide +kernel
theorem dX6_erase_48 : decode cX6_erase 48 = .ok (.iinc 3 1, 3) := by decide +kernel
theorem dX6_erase_51 : decode cX6_erase 51 = .ok (.goto (-22), 3) := by decide +kernel
theorem dX6_erase_54 : decode cX6_erase 54 = .ok (.return_, 1) := by decide +kernel
set_option maxRecDepth 20000 in
theorem ggX6_program_X6_isWhole : GoodIn wsX6_program wsX6_isWhole := goodIn_r _ [8, 9, 10, 1, 11, 12, 13, 14, 15, 16, 17, 18, 19, 20, 21, 22, 23, 24] (by decide +kernel) (by decide +kernel)
set_option maxRecDepth 20000 in
theorem gX6_program_X6_isWhole : GoodIn wsX6_program (wsV RX6 42 RX6 yX6_isWhole wsX6_isWhole) := goodIn_app (goodIn_of _ (by decide +kernel)) ggX6_program_X6_isWhole
theorem dX6_program_0 : decode cX6_program 0 = .ok (.aload_n 0, 1) := by decide +kernel
theorem dX6_program_1 : decode cX6_program 1 = .ok (.getfield 19, 3) := by decide +kernel
theorem dX6_program_4 : decode cX6_program 4 = .ok (.ifCond .eq 33, 3) := by decide +kernel
theorem dX6_program_7 : decode cX6_program 7 = .ok (.aload_n 0, 1) := by decide +kernel
theorem dX6_program_8 : decode cX6_program 8 = .ok (.getfield 7, 3) := by decide +kernel
theorem dX6_program_11 : decode cX6_program 11 = .ok (.iload_n 1, 1) := by decide +kernel
theorem dX6_program_12 : decode cX6_program 12 = .ok (.aload_n 0, 1) := by decide +kernel
theorem dX6_program_13 : decode cX6_program 13 = .ok (.getfield 7, 3) := by decide +kernel
theorem dX6_program_16 : decode cX6_program 16 = .ok (.iload_n 1, 1) := by decide +kernel
theorem dX6_program_17 : decode cX6_program 17 = .ok (.iaload, 1) := by decide +kernel
theorem dX6_program_18 : decode cX6_program 18 = .ok (.aload_n 0, 1) := by decide +kernel
theorem dX6_program_19 : decode cX6_program 19 = .ok (.invokevirtual 42, 3) := by decide +kernel
theorem dX6_program_22 : decode cX6_program 22 = .ok (.ifCond .eq 7, 3) := by decide +kernel
theorem dX6_program_25 : decode cX6_program 25 = .ok (.iload_n 2, 1) := by decide +kernel
theorem dX6_program_26 : decode cX6_program 26 = .ok (.goto 9, 3) := by decide +kernel
theorem dX6_program_29 : decode cX6_program 29 = .ok (.iload_n 2, 1) := by decide +kernel
theorem dX6_program_30 : decode cX6_program 30 = .ok (.aload_n 0, 1) := by decide +kernel
theorem dX6_program_31 : decode cX6_program 31 = .ok (.getfield 46, 3) := by decide +kernel
theorem dX6_program_34 : decode cX6_program 34 = .ok (.ior, 1) := by decide +kernel
theorem dX6_program_35 : decode cX6_program 35 = .ok (.iand, 1) := by decide +kernel
theorem dX6_program_36 : decode cX6_program 36 = .ok (.iastore, 1) := by decide +kernel
theorem dX6_program_37 : decode cX6_program 37 = .ok (.return_, 1) := by decide +kernel
theorem dX6_digested_0 : decode cX6_digested 0 = .ok (.iload_n 0, 1) := by decide +kernel
theorem dX6_digested_1 : decode cX6_digested 1 = .ok (.iload_n 1, 1) := by decide +kernel
theorem dX6_digested_2 : decode cX6_digested 2 = .ok (.ixor, 1) := by decide +kernel
theorem dX6_digested_3 : decode cX6_digested 3 = .ok (.ldc 49, 2) := by decide +kernel
theorem dX6_digested_5 : decode cX6_digested 5 = .ok (.imul, 1) := by decide +kernel
theorem dX6_digested_6 : decode cX6_digested 6 = .ok (.istore_n 2, 1) := by decide +kernel
theorem dX6_digested_7 : decode cX6_digested 7 = .ok (.iload_n 2, 1) := by decide +kernel
theorem dX6_digested_8 : decode cX6_digested 8 = .ok (.bipush 7, 2) := by decide +kernel
theorem dX6_digested_10 : decode cX6_digested 10 = .ok (.ishl, 1) := by decide +kernel
theorem dX6_digested_11 : decode cX6_digested 11 = .ok (.iload_n 2, 1) := by decide +kernel
theorem dX6_digested_12 : decode cX6_digested 12 = .ok (.bipush 25, 2) := by decide +kernel
theorem dX6_digested_14 : decode cX6_digested 14 = .ok (.iushr, 1) := by decide +kernel
theorem dX6_digested_15 : decode cX6_digested 15 = .ok (.ior, 1) := by decide +kernel
theorem dX6_digested_16 : decode cX6_digested 16 = .ok (.bipush 97, 2) := by decide +kernel
theorem dX6_digested_18 : decode cX6_digested 18 = .ok (.iadd, 1) := by decide +kernel
theorem dX6_digested_19 : decode cX6_digested 19 = .ok (.ireturn, 1) := by decide +kernel
set_option maxRecDepth 20000 in
theorem ggX6_digestOf_X6_digested : GoodIn wsX6_digestOf wsX6_digested := goodIn_r _ [5, 6] (by decide +kernel) (by decide +kernel)
set_option maxRecDepth 20000 in
theorem gX6_digestOf_X6_digested : GoodIn wsX6_digestOf (va_wsS RX6 50 yX6_digested wsX6_digested) := goodIn_app (goodIn_of _ (by decide +kernel)) ggX6_digestOf_X6_digested
theorem dX6_digestOf_0 : decode cX6_digestOf 0 = .ok (.iconst 0, 1) := by decide +kernel
theorem dX6_digestOf_1 : decode cX6_digestOf 1 = .ok (.istore_n 3, 1) := by decide +kernel
theorem dX6_digestOf_2 : decode cX6_digestOf 2 = .ok (.iconst 0, 1) := by decide +kernel
theorem dX6_digestOf_3 : decode cX6_digestOf 3 = .ok (.istore 4, 2) := by decide +kernel
theorem dX6_digestOf_5 : decode cX6_digestOf 5 = .ok (.iload 4, 2) := by decide +kernel
theorem dX6_digestOf_7 : decode cX6_digestOf 7 = .ok (.iload_n 2, 1) := by decide +kernel
theorem dX6_digestOf_8 : decode cX6_digestOf 8 = .ok (.if_icmp .ge 23, 3) := by decide +kernel
theorem dX6_digestOf_11 : decode cX6_digestOf 11 = .ok (.iload_n 3, 1) := by decide +kernel
theorem dX6_digestOf_12 : decode cX6_digestOf 12 = .ok (.aload_n 0, 1) := by decide +kernel
theorem dX6_digestOf_13 : decode cX6_digestOf 13 = .ok (.getfield 7, 3) := by decide +kernel
theorem dX6_digestOf_16 : decode cX6_digestOf 16 = .ok (.iload_n 1, 1) := by decide +kernel
theorem dX6_digestOf_17 : decode cX6_digestOf 17 = .ok (.iload 4, 2) := by decide +kernel
theorem dX6_digestOf_19 : decode cX6_digestOf 19 = .ok (.iadd, 1) := by decide +kernel
theorem dX6_digestOf_20 : decode cX6_digestOf 20 = .ok (.iaload, 1) := by decide +kernel
theorem dX6_digestOf_21 : decode cX6_digestOf 21 = .ok (.invokestatic 50, 3) := by decide +kernel
theorem dX6_digestOf_24 : decode cX6_digestOf 24 = .ok (.istore_n 3, 1) := by decide +kernel
theorem dX6_digestOf_25 : decode cX6_digestOf 25 = .ok (.iinc 4 1, 3) := by decide +kernel
theorem dX6_digestOf_28 : decode cX6_digestOf 28 = .ok (.goto (-23), 3) := by decide +kernel
theorem dX6_digestOf_31 : decode cX6_digestOf 31 = .ok (.iload_n 3, 1) := by decide +kernel
theorem dX6_digestOf_32 : decode cX6_digestOf 32 = .ok (.ireturn, 1) := by decide +kernel
theorem dX6_four_0 : decode cX6_four 0 = .ok (.aload_n 0, 1) := by decide +kernel
theorem dX6_four_1 : decode cX6_four 1 = .ok (.getfield 7, 3) := by decide +kernel
theorem dX6_four_4 : decode cX6_four 4 = .ok (.iload_n 1, 1) := by decide +kernel
theorem dX6_four_5 : decode cX6_four 5 = .ok (.iaload, 1) := by decide +kernel
theorem dX6_four_6 : decode cX6_four 6 = .ok (.bipush 24, 2) := by decide +kernel
theorem dX6_four_8 : decode cX6_four 8 = .ok (.ishl, 1) := by decide +kernel
theorem dX6_four_9 : decode cX6_four 9 = .ok (.aload_n 0, 1) := by decide +kernel
theorem dX6_four_10 : decode cX6_four 10 = .ok (.getfield 7, 3) := by decide +kernel
theorem dX6_four_13 : decode cX6_four 13 = .ok (.iload_n 1, 1) := by decide +kernel
theorem dX6_four_14 : decode cX6_four 14 = .ok (.iconst 1, 1) := by decide +kernel
theorem dX6_four_15 : decode cX6_four 15 = .ok (.iadd, 1) := by decide +kernel
theorem dX6_four_16 : decode cX6_four 16 = .ok (.iaload, 1) := by decide +kernel
theorem dX6_four_17 : decode cX6_four 17 = .ok (.bipush 16, 2) := by decide +kernel
theorem dX6_four_19 : decode cX6_four 19 = .ok (.ishl, 1) := by decide +kernel
theorem dX6_four_20 : decode cX6_four 20 = .ok (.ior, 1) := by decide +kernel
theorem dX6_four_21 : decode cX6_four 21 = .ok (.aload_n 0, 1) := by decide +kernel
theorem dX6_four_22 : decode cX6_four 22 = .ok (.getfield 7, 3) := by decide +kernel
theorem dX6_four_25 : decode cX6_four 25 = .ok (.iload_n 1, 1) := by decide +kernel
theorem dX6_four_26 : decode cX6_four 26 = .ok (.iconst 2, 1) := by decide +kernel
theorem dX6_four_27 : decode cX6_four 27 = .ok (.iadd, 1) := by decide +kernel
theorem dX6_four_28 : decode cX6_four 28 = .ok (.iaload, 1) := by decide +kernel
theorem dX6_four_29 : decode cX6_four 29 = .ok (.bipush 8, 2) := by decide +kernel
theorem dX6_four_31 : decode cX6_four 31 = .ok (.ishl, 1) := by decide +kernel
theorem dX6_four_32 : decode cX6_four 32 = .ok (.ior, 1) := by decide +kernel
theorem dX6_four_33 : decode cX6_four 33 = .ok (.aload_n 0, 1) := by decide +kernel
theorem dX6_four_34 : decode cX6_four 34 = .ok (.getfield 7, 3) := by decide +kernel
theorem dX6_four_37 : decode cX6_four 37 = .ok (.iload_n 1, 1) := by decide +kernel
theorem dX6_four_38 : decode cX6_four 38 = .ok (.iconst 3, 1) := by decide +kernel
theorem dX6_four_39 : decode cX6_four 39 = .ok (.iadd, 1) := by decide +kernel
theorem dX6_four_40 : decode cX6_four 40 = .ok (.iaload, 1) := by decide +kernel
theorem dX6_four_41 : decode cX6_four 41 = .ok (.ior, 1) := by decide +kernel
theorem dX6_four_42 : decode cX6_four 42 = .ok (.ireturn, 1) := by decide +kernel
theorem dX6_part_0 : decode cX6_part 0 = .ok (.iload_n 0, 1) := by decide +kernel
theorem dX6_part_1 : decode cX6_part 1 = .ok (.bipush 24, 2) := by decide +kernel
theorem dX6_part_3 : decode cX6_part 3 = .ok (.bipush 8, 2) := by decide +kernel
theorem dX6_part_5 : decode cX6_part 5 = .ok (.iload_n 1, 1) := by decide +kernel
theorem dX6_part_6 : decode cX6_part 6 = .ok (.imul, 1) := by decide +kernel
theorem dX6_part_7 : decode cX6_part 7 = .ok (.isub, 1) := by decide +kernel
theorem dX6_part_8 : decode cX6_part 8 = .ok (.ishr, 1) := by decide +kernel
theorem dX6_part_9 : decode cX6_part 9 = .ok (.sipush 255, 3) := by decide +kernel
theorem dX6_part_12 : decode cX6_part 12 = .ok (.iand, 1) := by decide +kernel
theorem dX6_part_13 : decode cX6_part 13 = .ok (.ireturn, 1) := by decide +kernel
theorem dX6_imageAt_0 : decode cX6_imageAt 0 = .ok (.sipush 224, 3) := by decide +kernel
theorem dX6_imageAt_3 : decode cX6_imageAt 3 = .ok (.iload_n 0, 1) := by decide +kernel
theorem dX6_imageAt_4 : decode cX6_imageAt 4 = .ok (.imul, 1) := by decide +kernel
theorem dX6_imageAt_5 : decode cX6_imageAt 5 = .ok (.ireturn, 1) := by decide +kernel
theorem dX6_headerAt_0 : decode cX6_headerAt 0 = .ok (.sipush 224, 3) := by decide +kernel
theorem dX6_headerAt_3 : decode cX6_headerAt 3 = .ok (.iload_n 0, 1) := by decide +kernel
theorem dX6_headerAt_4 : decode cX6_headerAt 4 = .ok (.imul, 1) := by decide +kernel
theorem dX6_headerAt_5 : decode cX6_headerAt 5 = .ok (.sipush 192, 3) := by decide +kernel
theorem dX6_headerAt_8 : decode cX6_headerAt 8 = .ok (.iadd, 1) := by decide +kernel
theorem dX6_headerAt_9 : decode cX6_headerAt 9 = .ok (.ireturn, 1) := by decide +kernel
theorem dX6_ones_0 : decode cX6_ones 0 = .ok (.iconst 0, 1) := by decide +kernel
theorem dX6_ones_1 : decode cX6_ones 1 = .ok (.istore_n 1, 1) := by decide +kernel
theorem dX6_ones_2 : decode cX6_ones 2 = .ok (.iconst 0, 1) := by decide +kernel
theorem dX6_ones_3 : decode cX6_ones 3 = .ok (.istore_n 2, 1) := by decide +kernel
theorem dX6_ones_4 : decode cX6_ones 4 = .ok (.iload_n 2, 1) := by decide +kernel
theorem dX6_ones_5 : decode cX6_ones 5 = .ok (.bipush 8, 2) := by decide +kernel
theorem dX6_ones_7 : decode cX6_ones 7 = .ok (.if_icmp .ge 17, 3) := by decide +kernel
theorem dX6_ones_10 : decode cX6_ones 10 = .ok (.iload_n 1, 1) := by decide +kernel
theorem dX6_ones_11 : decode cX6_ones 11 = .ok (.iload_n 0, 1) := by decide +kernel
theorem dX6_ones_12 : decode cX6_ones 12 = .ok (.iload_n 2, 1) := by decide +kernel
theorem dX6_ones_13 : decode cX6_ones 13 = .ok (.ishr, 1) := by decide +kernel
theorem dX6_ones_14 : decode cX6_ones 14 = .ok (.iconst 1, 1) := by decide +kernel
theorem dX6_ones_15 : decode cX6_ones 15 = .ok (.iand, 1) := by decide +kernel
theorem dX6_ones_16 : decode cX6_ones 16 = .ok (.iadd, 1) := by decide +kernel
theorem dX6_ones_17 : decode cX6_ones 17 = .ok (.istore_n 1, 1) := by decide +kernel
theorem dX6_ones_18 : decode cX6_ones 18 = .ok (.iinc 2 1, 3) := by decide +kernel
theorem dX6_ones_21 : decode cX6_ones 21 = .ok (.goto (-17), 3) := by decide +kernel
theorem dX6_ones_24 : decode cX6_ones 24 = .ok (.iload_n 1, 1) := by decide +kernel
theorem dX6_ones_25 : decode cX6_ones 25 = .ok (.ireturn, 1) := by decide +kernel
set_option maxRecDepth 20000 in
theorem ggX6_counterValue_X6_ones : GoodIn wsX6_counterValue wsX6_ones := goodIn_r _ [5] (by decide +kernel) (by decide +kernel)
set_option maxRecDepth 20000 in
theorem gX6_counterValue_X6_ones : GoodIn wsX6_counterValue (va_wsS RX6 54 yX6_ones wsX6_ones) := goodIn_app (goodIn_of _ (by decide +kernel)) ggX6_counterValue_X6_ones
theorem dX6_counterValue_0 : decode cX6_counterValue 0 = .ok (.sipush 256, 3) := by decide +kernel
theorem dX6_counterValue_3 : decode cX6_counterValue 3 = .ok (.istore_n 1, 1) := by decide +kernel
theorem dX6_counterValue_4 : decode cX6_counterValue 4 = .ok (.iconst 0, 1) := by decide +kernel
theorem dX6_counterValue_5 : decode cX6_counterValue 5 = .ok (.istore_n 2, 1) := by decide +kernel
theorem dX6_counterValue_6 : decode cX6_counterValue 6 = .ok (.iload_n 2, 1) := by decide +kernel
theorem dX6_counterValue_7 : decode cX6_counterValue 7 = .ok (.bipush 32, 2) := by decide +kernel
theorem dX6_counterValue_9 : decode cX6_counterValue 9 = .ok (.if_icmp .ge 25, 3) := by decide +kernel
theorem dX6_counterValue_12 : decode cX6_counterValue 12 = .ok (.iload_n 1, 1) := by decide +kernel
theorem dX6_counterValue_13 : decode cX6_counterValue 13 = .ok (.aload_n 0, 1) := by decide +kernel
theorem dX6_counterValue_14 : decode cX6_counterValue 14 = .ok (.getfield 7, 3) := by decide +kernel
theorem dX6_counterValue_17 : decode cX6_counterValue 17 = .ok (.sipush 704, 3) := by decide +kernel
theorem dX6_counterValue_20 : decode cX6_counterValue 20 = .ok (.iload_n 2, 1) := by decide +kernel
theorem dX6_counterValue_21 : decode cX6_counterValue 21 = .ok (.iadd, 1) := by decide +kernel
theorem dX6_counterValue_22 : decode cX6_counterValue 22 = .ok (.iaload, 1) := by decide +kernel
theorem dX6_counterValue_23 : decode cX6_counterValue 23 = .ok (.invokestatic 54, 3) := by decide +kernel
theorem dX6_counterValue_26 : decode cX6_counterValue 26 = .ok (.isub, 1) := by decide +kernel
theorem dX6_counterValue_27 : decode cX6_counterValue 27 = .ok (.istore_n 1, 1) := by decide +kernel
theorem dX6_counterValue_28 : decode cX6_counterValue 28 = .ok (.iinc 2 1, 3) := by decide +kernel
theorem dX6_counterValue_31 : decode cX6_counterValue 31 = .ok (.goto (-25), 3) := by decide +kernel
theorem dX6_counterValue_34 : decode cX6_counterValue 34 = .ok (.iload_n 1, 1) := by decide +kernel
theorem dX6_counterValue_35 : decode cX6_counterValue 35 = .ok (.ireturn, 1) := by decide +kernel
set_option maxRecDepth 20000 in
theorem ggX6_sequenceOf_X6_headerAt : GoodIn wsX6_sequenceOf wsX6_headerAt := goodIn_r _ [5] (by decide +kernel) (by decide +kernel)
set_option maxRecDepth 20000 in
theorem gX6_sequenceOf_X6_headerAt : GoodIn wsX6_sequenceOf (va_wsS RX6 58 yX6_headerAt wsX6_headerAt) := goodIn_app (goodIn_of _ (by decide +kernel)) ggX6_sequenceOf_X6_headerAt
theorem dX6_sequenceOf_0 : decode cX6_sequenceOf 0 = .ok (.aload_n 0, 1) := by decide +kernel
theorem dX6_sequenceOf_1 : decode cX6_sequenceOf 1 = .ok (.getfield 7, 3) := by decide +kernel
theorem dX6_sequenceOf_4 : decode cX6_sequenceOf 4 = .ok (.iload_n 1, 1) := by decide +kernel
theorem dX6_sequenceOf_5 : decode cX6_sequenceOf 5 = .ok (.invokestatic 58, 3) := by decide +kernel
theorem dX6_sequenceOf_8 : decode cX6_sequenceOf 8 = .ok (.iconst 1, 1) := by decide +kernel
theorem dX6_sequenceOf_9 : decode cX6_sequenceOf 9 = .ok (.iadd, 1) := by decide +kernel
theorem dX6_sequenceOf_10 : decode cX6_sequenceOf 10 = .ok (.iaload, 1) := by decide +kernel
theorem dX6_sequenceOf_11 : decode cX6_sequenceOf 11 = .ok (.ireturn, 1) := by decide +kernel
set_option maxRecDepth 20000 in
theorem ggX6_isGood_X6_headerAt : GoodIn wsX6_isGood wsX6_headerAt := goodIn_r _ [5] (by decide +kernel) (by decide +kernel)
set_option maxRecDepth 20000 in
theorem gX6_isGood_X6_headerAt : GoodIn wsX6_isGood (va_wsS RX6 58 yX6_headerAt wsX6_headerAt) := goodIn_app (goodIn_of _ (by decide +kernel)) ggX6_isGood_X6_headerAt
set_option maxRecDepth 20000 in
theorem ggX6_isGood_X6_imageAt : GoodIn wsX6_isGood wsX6_imageAt := goodIn_r _ [8] (by decide +kernel) (by decide +kernel)
set_option maxRecDepth 20000 in
theorem gX6_isGood_X6_imageAt : GoodIn wsX6_isGood (va_wsS RX6 61 yX6_imageAt wsX6_imageAt) := goodIn_app (goodIn_of _ (by decide +kernel)) ggX6_isGood_X6_imageAt
set_option maxRecDepth 20000 in
theorem ggX6_isGood_X6_digestOf : GoodIn wsX6_isGood wsX6_digestOf := goodIn_r _ [12, 1, 13, 14, 4, 15, 16, 28, 29, 30, 31, 32, 33, 34, 35, 36, 37, 38, 39, 40] (by decide +kernel) (by decide +kernel)
set_option maxRecDepth 20000 in
theorem gX6_isGood_X6_digestOf : GoodIn wsX6_isGood (wsV RX6 64 RX6 yX6_digestOf wsX6_digestOf) := goodIn_app (goodIn_of _ (by decide +kernel)) ggX6_isGood_X6_digestOf
set_option maxRecDepth 20000 in
theorem ggX6_isGood_X6_four : GoodIn wsX6_isGood wsX6_four := goodIn_r _ [20, 1, 28, 29, 30, 31, 32, 33, 34, 35, 36, 37, 38, 39, 40] (by decide +kernel) (by decide +kernel)
set_option maxRecDepth 20000 in
theorem gX6_isGood_X6_four : GoodIn wsX6_isGood (wsV RX6 67 RX6 yX6_four wsX6_four) := goodIn_app (goodIn_of _ (by decide +kernel)) ggX6_isGood_X6_four
set_option maxRecDepth 20000 in
theorem ggX6_isGood_X6_counterValue : GoodIn wsX6_isGood wsX6_counterValue := goodIn_r _ [24, 1, 25, 26, 4, 27, 28, 29, 30, 31, 32, 33, 34, 35, 36, 37, 38, 39, 40] (by decide +kernel) (by decide +kernel)
set_option maxRecDepth 20000 in
theorem gX6_isGood_X6_counterValue : GoodIn wsX6_isGood (wsV RX6 70 RX6 yX6_counterValue wsX6_counterValue) := goodIn_app (goodIn_of _ (by decide +kernel)) ggX6_isGood_X6_counterValue
theorem dX6_isGood_0 : decode cX6_isGood 0 = .ok (.iload_n 1, 1) := by decide +kernel
theorem dX6_isGood_1 : decode cX6_isGood 1 = .ok (.invokestatic 58, 3) := by decide +kernel
theorem dX6_isGood_4 : decode cX6_isGood 4 = .ok (.istore_n 2, 1) := by decide +kernel
theorem dX6_isGood_5 : decode cX6_isGood 5 = .ok (.aload_n 0, 1) := by decide +kernel
theorem dX6_isGood_6 : decode cX6_isGood 6 = .ok (.getfield 7, 3) := by decide +kernel
theorem dX6_isGood_9 : decode cX6_isGood 9 = .ok (.iload_n 2, 1) := by decide +kernel
theorem dX6_isGood_10 : decode cX6_isGood 10 = .ok (.iaload, 1) := by decide +kernel
theorem dX6_isGood_11 : decode cX6_isGood 11 = .ok (.istore_n 3, 1) := by decide +kernel
theorem dX6_isGood_12 : decode cX6_isGood 12 = .ok (.aload_n 0, 1) := by decide +kernel
theorem dX6_isGood_13 : decode cX6_isGood 13 = .ok (.getfield 7, 3) := by decide +kernel
theorem dX6_isGood_16 : decode cX6_isGood 16 = .ok (.iload_n 2, 1) := by decide +kernel
theorem dX6_isGood_17 : decode cX6_isGood 17 = .ok (.bipush 8, 2) := by decide +kernel
theorem dX6_isGood_19 : decode cX6_isGood 19 = .ok (.iadd, 1) := by decide +kernel
theorem dX6_isGood_20 : decode cX6_isGood 20 = .ok (.iaload, 1) := by decide +kernel
theorem dX6_isGood_21 : decode cX6_isGood 21 = .ok (.ifCond .ne 53, 3) := by decide +kernel
theorem dX6_isGood_24 : decode cX6_isGood 24 = .ok (.iload_n 3, 1) := by decide +kernel
theorem dX6_isGood_25 : decode cX6_isGood 25 = .ok (.iconst 1, 1) := by decide +kernel
theorem dX6_isGood_26 : decode cX6_isGood 26 = .ok (.if_icmp .lt 48, 3) := by decide +kernel
theorem dX6_isGood_29 : decode cX6_isGood 29 = .ok (.iload_n 3, 1) := by decide +kernel
theorem dX6_isGood_30 : decode cX6_isGood 30 = .ok (.sipush 192, 3) := by decide +kernel
theorem dX6_isGood_33 : decode cX6_isGood 33 = .ok (.if_icmp .gt 41, 3) := by decide +kernel
theorem dX6_isGood_36 : decode cX6_isGood 36 = .ok (.aload_n 0, 1) := by decide +kernel
theorem dX6_isGood_37 : decode cX6_isGood 37 = .ok (.iload_n 1, 1) := by decide +kernel
theorem dX6_isGood_38 : decode cX6_isGood 38 = .ok (.invokestatic 61, 3) := by decide +kernel
theorem dX6_isGood_41 : decode cX6_isGood 41 = .ok (.iload_n 3, 1) := by decide +kernel
theorem dX6_isGood_42 : decode cX6_isGood 42 = .ok (.invokevirtual 64, 3) := by decide +kernel
theorem dX6_isGood_45 : decode cX6_isGood 45 = .ok (.aload_n 0, 1) := by decide +kernel
theorem dX6_isGood_46 : decode cX6_isGood 46 = .ok (.iload_n 2, 1) := by decide +kernel
theorem dX6_isGood_47 : decode cX6_isGood 47 = .ok (.iconst 2, 1) := by decide +kernel
theorem dX6_isGood_48 : decode cX6_isGood 48 = .ok (.iadd, 1) := by decide +kernel
theorem dX6_isGood_49 : decode cX6_isGood 49 = .ok (.invokevirtual 67, 3) := by decide +kernel
theorem dX6_isGood_52 : decode cX6_isGood 52 = .ok (.if_icmp .ne 22, 3) := by decide +kernel
theorem dX6_isGood_55 : decode cX6_isGood 55 = .ok (.aload_n 0, 1) := by decide +kernel
theorem dX6_isGood_56 : decode cX6_isGood 56 = .ok (.getfield 7, 3) := by decide +kernel
theorem dX6_isGood_59 : decode cX6_isGood 59 = .ok (.iload_n 2, 1) := by decide +kernel
theorem dX6_isGood_60 : decode cX6_isGood 60 = .ok (.iconst 1, 1) := by decide +kernel
theorem dX6_isGood_61 : decode cX6_isGood 61 = .ok (.iadd, 1) := by decide +kernel
theorem dX6_isGood_62 : decode cX6_isGood 62 = .ok (.iaload, 1) := by decide +kernel
theorem dX6_isGood_63 : decode cX6_isGood 63 = .ok (.aload_n 0, 1) := by decide +kernel
theorem dX6_isGood_64 : decode cX6_isGood 64 = .ok (.invokevirtual 70, 3) := by decide +kernel
theorem dX6_isGood_67 : decode cX6_isGood 67 = .ok (.if_icmp .lt 7, 3) := by decide +kernel
theorem dX6_isGood_70 : decode cX6_isGood 70 = .ok (.iconst 1, 1) := by decide +kernel
theorem dX6_isGood_71 : decode cX6_isGood 71 = .ok (.goto 4, 3) := by decide +kernel
theorem dX6_isGood_74 : decode cX6_isGood 74 = .ok (.iconst 0, 1) := by decide +kernel
theorem dX6_isGood_75 : decode cX6_isGood 75 = .ok (.ireturn, 1) := by decide +kernel
set_option maxRecDepth 20000 in
theorem ggX6_isConfirmed_X6_headerAt : GoodIn wsX6_isConfirmed wsX6_headerAt := goodIn_r _ [5] (by decide +kernel) (by decide +kernel)
set_option maxRecDepth 20000 in
theorem gX6_isConfirmed_X6_headerAt : GoodIn wsX6_isConfirmed (va_wsS RX6 58 yX6_headerAt wsX6_headerAt) := goodIn_app (goodIn_of _ (by decide +kernel)) ggX6_isConfirmed_X6_headerAt
theorem dX6_isConfirmed_0 : decode cX6_isConfirmed 0 = .ok (.aload_n 0, 1) := by decide +kernel
theorem dX6_isConfirmed_1 : decode cX6_isConfirmed 1 = .ok (.getfield 7, 3) := by decide +kernel
theorem dX6_isConfirmed_4 : decode cX6_isConfirmed 4 = .ok (.iload_n 1, 1) := by decide +kernel
theorem dX6_isConfirmed_5 : decode cX6_isConfirmed 5 = .ok (.invokestatic 58, 3) := by decide +kernel
theorem dX6_isConfirmed_8 : decode cX6_isConfirmed 8 = .ok (.bipush 7, 2) := by decide +kernel
theorem dX6_isConfirmed_10 : decode cX6_isConfirmed 10 = .ok (.iadd, 1) := by decide +kernel
theorem dX6_isConfirmed_11 : decode cX6_isConfirmed 11 = .ok (.iaload, 1) := by decide +kernel
theorem dX6_isConfirmed_12 : decode cX6_isConfirmed 12 = .ok (.ifCond .ne 7, 3) := by decide +kernel
theorem dX6_isConfirmed_15 : decode cX6_isConfirmed 15 = .ok (.iconst 1, 1) := by decide +kernel
theorem dX6_isConfirmed_16 : decode cX6_isConfirmed 16 = .ok (.goto 4, 3) := by decide +kernel
theorem dX6_isConfirmed_19 : decode cX6_isConfirmed 19 = .ok (.iconst 0, 1) := by decide +kernel
theorem dX6_isConfirmed_20 : decode cX6_isConfirmed 20 = .ok (.ireturn, 1) := by decide +kernel
theorem dX6_lessOne_0 : decode cX6_lessOne 0 = .ok (.iconst 1, 1) := by decide +kernel
theorem dX6_lessOne_1 : decode cX6_lessOne 1 = .ok (.istore_n 1, 1) := by decide +kernel
theorem dX6_lessOne_2 : decode cX6_lessOne 2 = .ok (.iload_n 1, 1) := by decide +kernel
theorem dX6_lessOne_3 : decode cX6_lessOne 3 = .ok (.sipush 256, 3) := by decide +kernel
theorem dX6_lessOne_6 : decode cX6_lessOne 6 = .ok (.if_icmp .ge 16, 3) := by decide +kernel
theorem dX6_lessOne_9 : decode cX6_lessOne 9 = .ok (.iload_n 0, 1) := by decide +kernel
theorem dX6_lessOne_10 : decode cX6_lessOne 10 = .ok (.iload_n 1, 1) := by decide +kernel
theorem dX6_lessOne_11 : decode cX6_lessOne 11 = .ok (.iand, 1) := by decide +kernel
theorem dX6_lessOne_12 : decode cX6_lessOne 12 = .ok (.ifCond .ne 10, 3) := by decide +kernel
theorem dX6_lessOne_15 : decode cX6_lessOne 15 = .ok (.iconst 2, 1) := by decide +kernel
theorem dX6_lessOne_16 : decode cX6_lessOne 16 = .ok (.iload_n 1, 1) := by decide +kernel
theorem dX6_lessOne_17 : decode cX6_lessOne 17 = .ok (.imul, 1) := by decide +kernel
theorem dX6_lessOne_18 : decode cX6_lessOne 18 = .ok (.istore_n 1, 1) := by decide +kernel
theorem dX6_lessOne_19 : decode cX6_lessOne 19 = .ok (.goto (-17), 3) := by decide +kernel
theorem dX6_lessOne_22 : decode cX6_lessOne 22 = .ok (.iload_n 0, 1) := by decide +kernel
theorem dX6_lessOne_23 : decode cX6_lessOne 23 = .ok (.iload_n 1, 1) := by decide +kernel
theorem dX6_lessOne_24 : decode cX6_lessOne 24 = .ok (.iconst (-1), 1) := by decide +kernel
theorem dX6_lessOne_25 : decode cX6_lessOne 25 = .ok (.ixor, 1) := by decide +kernel
theorem dX6_lessOne_26 : decode cX6_lessOne 26 = .ok (.iand, 1) := by decide +kernel
theorem dX6_lessOne_27 : decode cX6_lessOne 27 = .ok (.sipush 255, 3) := by decide +kernel
theorem dX6_lessOne_30 : decode cX6_lessOne 30 = .ok (.iand, 1) := by decide +kernel
theorem dX6_lessOne_31 : decode cX6_lessOne 31 = .ok (.ireturn, 1) := by decide +kernel
theorem dX6_type_0 : decode cX6_type 0 = .ok (.aload_n 0, 1) := by decide +kernel
theorem dX6_type_1 : decode cX6_type 1 = .ok (.iconst 0, 1) := by decide +kernel
theorem dX6_type_2 : decode cX6_type 2 = .ok (.putfield 36, 3) := by decide +kernel
theorem dX6_type_5 : decode cX6_type 5 = .ok (.iload_n 3, 1) := by decide +kernel
theorem dX6_type_6 : decode cX6_type 6 = .ok (.iconst 1, 1) := by decide +kernel
theorem dX6_type_7 : decode cX6_type 7 = .ok (.if_icmp .lt 9, 3) := by decide +kernel
theorem dX6_type_10 : decode cX6_type 10 = .ok (.iload_n 3, 1) := by decide +kernel
theorem dX6_type_11 : decode cX6_type 11 = .ok (.bipush 8, 2) := by decide +kernel
theorem dX6_type_13 : decode cX6_type 13 = .ok (.if_icmp .le 5, 3) := by decide +kernel
theorem dX6_type_16 : decode cX6_type 16 = .ok (.iconst (-1), 1) := by decide +kernel
theorem dX6_type_17 : decode cX6_type 17 = .ok (.ireturn, 1) := by decide +kernel
theorem dX6_type_18 : decode cX6_type 18 = .ok (.aload_n 0, 1) := by decide +kernel
theorem dX6_type_19 : decode cX6_type 19 = .ok (.getfield 74, 3) := by decide +kernel
theorem dX6_type_22 : decode cX6_type 22 = .ok (.iload_n 3, 1) := by decide +kernel
theorem dX6_type_23 : decode cX6_type 23 = .ok (.iadd, 1) := by decide +kernel
theorem dX6_type_24 : decode cX6_type 24 = .ok (.sipush 192, 3) := by decide +kernel
theorem dX6_type_27 : decode cX6_type 27 = .ok (.if_icmp .le 6, 3) := by decide +kernel
theorem dX6_type_30 : decode cX6_type 30 = .ok (.bipush (-8), 2) := by decide +kernel
theorem dX6_type_32 : decode cX6_type 32 = .ok (.ireturn, 1) := by decide +kernel
theorem dX6_type_33 : decode cX6_type 33 = .ok (.bipush 8, 2) := by decide +kernel
theorem dX6_type_35 : decode cX6_type 35 = .ok (.iload_n 3, 1) := by decide +kernel
theorem dX6_type_36 : decode cX6_type 36 = .ok (.imul, 1) := by decide +kernel
theorem dX6_type_37 : decode cX6_type 37 = .ok (.bipush 8, 2) := by decide +kernel
theorem dX6_type_39 : decode cX6_type 39 = .ok (.isub, 1) := by decide +kernel
theorem dX6_type_40 : decode cX6_type 40 = .ok (.istore 4, 2) := by decide +kernel
theorem dX6_type_42 : decode cX6_type 42 = .ok (.iload 4, 2) := by decide +kernel
theorem dX6_type_44 : decode cX6_type 44 = .ok (.ifCond .lt 41, 3) := by decide +kernel
theorem dX6_type_47 : decode cX6_type 47 = .ok (.aload_n 0, 1) := by decide +kernel
theorem dX6_type_48 : decode cX6_type 48 = .ok (.getfield 16, 3) := by decide +kernel
theorem dX6_type_51 : decode cX6_type 51 = .ok (.aload_n 0, 1) := by decide +kernel
theorem dX6_type_52 : decode cX6_type 52 = .ok (.getfield 74, 3) := by decide +kernel
theorem dX6_type_55 : decode cX6_type 55 = .ok (.lload_n 1, 1) := by decide +kernel
theorem dX6_type_56 : decode cX6_type 56 = .ok (.iload 4, 2) := by decide +kernel
theorem dX6_type_58 : decode cX6_type 58 = .ok (.lshr, 1) := by decide +kernel
theorem dX6_type_59 : decode cX6_type 59 = .ok (.ldc2_w 77, 3) := by decide +kernel
theorem dX6_type_62 : decode cX6_type 62 = .ok (.land, 1) := by decide +kernel
theorem dX6_type_63 : decode cX6_type 63 = .ok (.l2i, 1) := by decide +kernel
theorem dX6_type_64 : decode cX6_type 64 = .ok (.iastore, 1) := by decide +kernel
theorem dX6_type_65 : decode cX6_type 65 = .ok (.aload_n 0, 1) := by decide +kernel
theorem dX6_type_66 : decode cX6_type 66 = .ok (.dup, 1) := by decide +kernel
theorem dX6_type_67 : decode cX6_type 67 = .ok (.getfield 74, 3) := by decide +kernel
theorem dX6_type_70 : decode cX6_type 70 = .ok (.iconst 1, 1) := by decide +kernel
theorem dX6_type_71 : decode cX6_type 71 = .ok (.iadd, 1) := by decide +kernel
theorem dX6_type_72 : decode cX6_type 72 = .ok (.putfield 74, 3) := by decide +kernel
theorem dX6_type_75 : decode cX6_type 75 = .ok (.iload 4, 2) := by decide +kernel
theorem dX6_type_77 : decode cX6_type 77 = .ok (.bipush 8, 2) := by decide +kernel
theorem dX6_type_79 : decode cX6_type 79 = .ok (.isub, 1) := by decide +kernel
theorem dX6_type_80 : decode cX6_type 80 = .ok (.istore 4, 2) := by decide +kernel
theorem dX6_type_82 : decode cX6_type 82 = .ok (.goto (-40), 3) := by decide +kernel
theorem dX6_type_85 : decode cX6_type 85 = .ok (.aload_n 0, 1) := by decide +kernel
theorem dX6_type_86 : decode cX6_type 86 = .ok (.getfield 74, 3) := by decide +kernel
theorem dX6_type_89 : decode cX6_type 89 = .ok (.ireturn, 1) := by decide +kernel
set_option maxRecDepth 20000 in
theorem ggX6_factory_X6_erase : GoodIn wsX6_factory wsX6_erase := goodIn_r _ [10, 2, 11, 12, 13, 14, 15, 9, 16, 17, 18, 4, 37, 38, 39, 40, 41, 42, 43, 44, 45, 46, 47, 48, 49] (by decide +kernel) (by decide +kernel)
set_option maxRecDepth 20000 in
theorem gX6_factory_X6_erase : GoodIn wsX6_factory (wsV RX6 79 RX6 yX6_erase wsX6_erase) := goodIn_app (goodIn_of _ (by decide +kernel)) ggX6_factory_X6_erase
set_option maxRecDepth 20000 in
theorem ggX6_factory_X6_program : GoodIn wsX6_factory wsX6_program := goodIn_r _ [22, 2, 12, 11, 13, 14, 15, 9, 16, 17, 18, 4, 37, 38, 39, 40, 41, 42, 43, 44, 45, 46, 47, 48, 49] (by decide +kernel) (by decide +kernel)
set_option maxRecDepth 20000 in
theorem gX6_factory_X6_program : GoodIn wsX6_factory (wsV RX6 83 RX6 yX6_program wsX6_program) := goodIn_app (goodIn_of _ (by decide +kernel)) ggX6_factory_X6_program
set_option maxRecDepth 20000 in
theorem ggX6_factory_X6_digested : GoodIn wsX6_factory wsX6_digested := goodIn_r _ [25, 26] (by decide +kernel) (by decide +kernel)
set_option maxRecDepth 20000 in
theorem gX6_factory_X6_digested : GoodIn wsX6_factory (va_wsS RX6 50 yX6_digested wsX6_digested) := goodIn_app (goodIn_of _ (by decide +kernel)) ggX6_factory_X6_digested
set_option maxRecDepth 20000 in
theorem ggX6_factory_X6_writeHeader : GoodIn wsX6_factory wsX6_writeHeader := goodIn_r _ [30, 31, 32, 9, 33, 19, 20, 21, 22, 2, 12, 11, 13, 14, 15, 16, 17, 18, 4, 34, 35, 36, 37, 38, 39, 40, 41, 42, 43, 44, 45, 46, 47, 48, 49] (by decide +kernel) (by decide +kernel)
set_option maxRecDepth 20000 in
theorem gX6_factory_X6_writeHeader : GoodIn wsX6_factory (wsV RX6 87 RX6 yX6_writeHeader wsX6_writeHeader) := goodIn_app (goodIn_of _ (by decide +kernel)) ggX6_factory_X6_writeHeader
set_option maxRecDepth 20000 in
theorem ggX6_factory_X6_headerAt : GoodIn wsX6_factory wsX6_headerAt := goodIn_r _ [33] (by decide +kernel) (by decide +kernel)
set_option maxRecDepth 20000 in
theorem gX6_factory_X6_headerAt : GoodIn wsX6_factory (va_wsS RX6 58 yX6_headerAt wsX6_headerAt) := goodIn_app (goodIn_of _ (by decide +kernel)) ggX6_factory_X6_headerAt
end
section
theorem dX6_factory_0 : decode cX6_factory 0 = .ok (.aload_n 0, 1) := by decide +kernel
theorem dX6_factory_1 : decode cX6_factory 1 = .ok (.iconst 0, 1) := by decide +kernel
theorem dX6_factory_2 : decode cX6_factory 2 = .ok (.putfield 36, 3) := by decide +kernel
theorem dX6_factory_5 : decode cX6_factory 5 = .ok (.aload_n 0, 1) := by decide +kernel
theorem dX6_factory_6 : decode cX6_factory 6 = .ok (.getfield 19, 3) := by decide +kernel
theorem dX6_factory_9 : decode cX6_factory 9 = .ok (.ifCond .ne 6, 3) := by decide +kernel
theorem dX6_factory_12 : decode cX6_factory 12 = .ok (.bipush (-2), 2) := by decide +kernel
theorem dX6_factory_14 : decode cX6_factory 14 = .ok (.ireturn, 1) := by decide +kernel
theorem dX6_factory_15 : decode cX6_factory 15 = .ok (.iload_n 1, 1) := by decide +kernel
theorem dX6_factory_16 : decode cX6_factory 16 = .ok (.iconst 1, 1) := by decide +kernel
theorem dX6_factory_17 : decode cX6_factory 17 = .ok (.if_icmp .lt 18, 3) := by decide +kernel
theorem dX6_factory_20 : decode cX6_factory 20 = .ok (.iload_n 1, 1) := by decide +kernel
theorem dX6_factory_21 : decode cX6_factory 21 = .ok (.sipush 200, 3) := by decide +kernel
theorem dX6_factory_24 : decode cX6_factory 24 = .ok (.if_icmp .gt 11, 3) := by decide +kernel
theorem dX6_factory_27 : decode cX6_factory 27 = .ok (.aload_n 0, 1) := by decide +kernel
theorem dX6_factory_28 : decode cX6_factory 28 = .ok (.getfield 74, 3) := by decide +kernel
theorem dX6_factory_31 : decode cX6_factory 31 = .ok (.iconst 1, 1) := by decide +kernel
theorem dX6_factory_32 : decode cX6_factory 32 = .ok (.if_icmp .ge 5, 3) := by decide +kernel
theorem dX6_factory_35 : decode cX6_factory 35 = .ok (.iconst (-1), 1) := by decide +kernel
theorem dX6_factory_36 : decode cX6_factory 36 = .ok (.ireturn, 1) := by decide +kernel
theorem dX6_factory_37 : decode cX6_factory 37 = .ok (.aload_n 0, 1) := by decide +kernel
theorem dX6_factory_38 : decode cX6_factory 38 = .ok (.getfield 74, 3) := by decide +kernel
theorem dX6_factory_41 : decode cX6_factory 41 = .ok (.istore_n 2, 1) := by decide +kernel
theorem dX6_factory_42 : decode cX6_factory 42 = .ok (.aload_n 0, 1) := by decide +kernel
theorem dX6_factory_43 : decode cX6_factory 43 = .ok (.iconst 0, 1) := by decide +kernel
theorem dX6_factory_44 : decode cX6_factory 44 = .ok (.putfield 74, 3) := by decide +kernel
theorem dX6_factory_47 : decode cX6_factory 47 = .ok (.aload_n 0, 1) := by decide +kernel
theorem dX6_factory_48 : decode cX6_factory 48 = .ok (.bipush (-7), 2) := by decide +kernel
theorem dX6_factory_50 : decode cX6_factory 50 = .ok (.putfield 23, 3) := by decide +kernel
theorem dX6_factory_53 : decode cX6_factory 53 = .ok (.iconst 0, 1) := by decide +kernel
theorem dX6_factory_54 : decode cX6_factory 54 = .ok (.istore_n 3, 1) := by decide +kernel
theorem dX6_factory_55 : decode cX6_factory 55 = .ok (.iload_n 3, 1) := by decide +kernel
theorem dX6_factory_56 : decode cX6_factory 56 = .ok (.bipush 7, 2) := by decide +kernel
theorem dX6_factory_58 : decode cX6_factory 58 = .ok (.if_icmp .ge 14, 3) := by decide +kernel
theorem dX6_factory_61 : decode cX6_factory 61 = .ok (.aload_n 0, 1) := by decide +kernel
theorem dX6_factory_62 : decode cX6_factory 62 = .ok (.iload_n 3, 1) := by decide +kernel
theorem dX6_factory_63 : decode cX6_factory 63 = .ok (.invokevirtual 79, 3) := by decide +kernel
theorem dX6_factory_66 : decode cX6_factory 66 = .ok (.iinc 3 1, 3) := by decide +kernel
theorem dX6_factory_69 : decode cX6_factory 69 = .ok (.goto (-14), 3) := by decide +kernel
theorem dX6_factory_72 : decode cX6_factory 72 = .ok (.aload_n 0, 1) := by decide +kernel
theorem dX6_factory_73 : decode cX6_factory 73 = .ok (.bipush 22, 2) := by decide +kernel
theorem dX6_factory_75 : decode cX6_factory 75 = .ok (.invokevirtual 79, 3) := by decide +kernel
theorem dX6_factory_78 : decode cX6_factory 78 = .ok (.iconst 0, 1) := by decide +kernel
theorem dX6_factory_79 : decode cX6_factory 79 = .ok (.istore_n 3, 1) := by decide +kernel
theorem dX6_factory_80 : decode cX6_factory 80 = .ok (.iconst 0, 1) := by decide +kernel
theorem dX6_factory_81 : decode cX6_factory 81 = .ok (.istore 4, 2) := by decide +kernel
theorem dX6_factory_83 : decode cX6_factory 83 = .ok (.iload 4, 2) := by decide +kernel
theorem dX6_factory_85 : decode cX6_factory 85 = .ok (.iload_n 2, 1) := by decide +kernel
theorem dX6_factory_86 : decode cX6_factory 86 = .ok (.if_icmp .ge 34, 3) := by decide +kernel
theorem dX6_factory_89 : decode cX6_factory 89 = .ok (.aload_n 0, 1) := by decide +kernel
theorem dX6_factory_90 : decode cX6_factory 90 = .ok (.iload 4, 2) := by decide +kernel
theorem dX6_factory_92 : decode cX6_factory 92 = .ok (.aload_n 0, 1) := by decide +kernel
theorem dX6_factory_93 : decode cX6_factory 93 = .ok (.getfield 16, 3) := by decide +kernel
theorem dX6_factory_96 : decode cX6_factory 96 = .ok (.iload 4, 2) := by decide +kernel
theorem dX6_factory_98 : decode cX6_factory 98 = .ok (.iaload, 1) := by decide +kernel
theorem dX6_factory_99 : decode cX6_factory 99 = .ok (.invokevirtual 83, 3) := by decide +kernel
theorem dX6_factory_102 : decode cX6_factory 102 = .ok (.iload_n 3, 1) := by decide +kernel
theorem dX6_factory_103 : decode cX6_factory 103 = .ok (.aload_n 0, 1) := by decide +kernel
theorem dX6_factory_104 : decode cX6_factory 104 = .ok (.getfield 16, 3) := by decide +kernel
theorem dX6_factory_107 : decode cX6_factory 107 = .ok (.iload 4, 2) := by decide +kernel
theorem dX6_factory_109 : decode cX6_factory 109 = .ok (.iaload, 1) := by decide +kernel
theorem dX6_factory_110 : decode cX6_factory 110 = .ok (.invokestatic 50, 3) := by decide +kernel
theorem dX6_factory_113 : decode cX6_factory 113 = .ok (.istore_n 3, 1) := by decide +kernel
theorem dX6_factory_114 : decode cX6_factory 114 = .ok (.iinc 4 1, 3) := by decide +kernel
theorem dX6_factory_117 : decode cX6_factory 117 = .ok (.goto (-34), 3) := by decide +kernel
theorem dX6_factory_120 : decode cX6_factory 120 = .ok (.aload_n 0, 1) := by decide +kernel
theorem dX6_factory_121 : decode cX6_factory 121 = .ok (.iconst 0, 1) := by decide +kernel
theorem dX6_factory_122 : decode cX6_factory 122 = .ok (.iload_n 2, 1) := by decide +kernel
theorem dX6_factory_123 : decode cX6_factory 123 = .ok (.iload_n 1, 1) := by decide +kernel
theorem dX6_factory_124 : decode cX6_factory 124 = .ok (.iload_n 3, 1) := by decide +kernel
theorem dX6_factory_125 : decode cX6_factory 125 = .ok (.invokevirtual 87, 3) := by decide +kernel
theorem dX6_factory_128 : decode cX6_factory 128 = .ok (.aload_n 0, 1) := by decide +kernel
theorem dX6_factory_129 : decode cX6_factory 129 = .ok (.iconst 0, 1) := by decide +kernel
theorem dX6_factory_130 : decode cX6_factory 130 = .ok (.invokestatic 58, 3) := by decide +kernel
theorem dX6_factory_133 : decode cX6_factory 133 = .ok (.bipush 7, 2) := by decide +kernel
theorem dX6_factory_135 : decode cX6_factory 135 = .ok (.iadd, 1) := by decide +kernel
theorem dX6_factory_136 : decode cX6_factory 136 = .ok (.iconst 0, 1) := by decide +kernel
theorem dX6_factory_137 : decode cX6_factory 137 = .ok (.invokevirtual 83, 3) := by decide +kernel
theorem dX6_factory_140 : decode cX6_factory 140 = .ok (.aload_n 0, 1) := by decide +kernel
theorem dX6_factory_141 : decode cX6_factory 141 = .ok (.iconst 0, 1) := by decide +kernel
theorem dX6_factory_142 : decode cX6_factory 142 = .ok (.invokestatic 58, 3) := by decide +kernel
theorem dX6_factory_145 : decode cX6_factory 145 = .ok (.bipush 8, 2) := by decide +kernel
theorem dX6_factory_147 : decode cX6_factory 147 = .ok (.iadd, 1) := by decide +kernel
theorem dX6_factory_148 : decode cX6_factory 148 = .ok (.iconst 0, 1) := by decide +kernel
theorem dX6_factory_149 : decode cX6_factory 149 = .ok (.invokevirtual 83, 3) := by decide +kernel
theorem dX6_factory_152 : decode cX6_factory 152 = .ok (.aload_n 0, 1) := by decide +kernel
theorem dX6_factory_153 : decode cX6_factory 153 = .ok (.getfield 19, 3) := by decide +kernel
theorem dX6_factory_156 : decode cX6_factory 156 = .ok (.ifCond .eq 7, 3) := by decide +kernel
theorem dX6_factory_159 : decode cX6_factory 159 = .ok (.iconst 1, 1) := by decide +kernel
theorem dX6_factory_160 : decode cX6_factory 160 = .ok (.goto 5, 3) := by decide +kernel
theorem dX6_factory_163 : decode cX6_factory 163 = .ok (.bipush (-2), 2) := by decide +kernel
theorem dX6_factory_165 : decode cX6_factory 165 = .ok (.ireturn, 1) := by decide +kernel
set_option maxRecDepth 20000 in
theorem ggX6_writeHeader_X6_headerAt : GoodIn wsX6_writeHeader wsX6_headerAt := goodIn_r _ [4] (by decide +kernel) (by decide +kernel)
set_option maxRecDepth 20000 in
theorem gX6_writeHeader_X6_headerAt : GoodIn wsX6_writeHeader (va_wsS RX6 58 yX6_headerAt wsX6_headerAt) := goodIn_app (goodIn_of _ (by decide +kernel)) ggX6_writeHeader_X6_headerAt
set_option maxRecDepth 20000 in
theorem ggX6_writeHeader_X6_program : GoodIn wsX6_writeHeader wsX6_program := goodIn_r _ [8, 9, 10, 11, 12, 13, 14, 3, 15, 16, 17, 18, 22, 23, 24, 25, 26, 27, 28, 29, 30, 31, 32, 33, 34] (by decide +kernel) (by decide +kernel)
set_option maxRecDepth 20000 in
theorem gX6_writeHeader_X6_program : GoodIn wsX6_writeHeader (wsV RX6 83 RX6 yX6_program wsX6_program) := goodIn_app (goodIn_of _ (by decide +kernel)) ggX6_writeHeader_X6_program
set_option maxRecDepth 20000 in
theorem ggX6_writeHeader_X6_part : GoodIn wsX6_writeHeader wsX6_part := goodIn_r _ [21] (by decide +kernel) (by decide +kernel)
set_option maxRecDepth 20000 in
theorem gX6_writeHeader_X6_part : GoodIn wsX6_writeHeader (va_wsS RX6 91 yX6_part wsX6_part) := goodIn_app (goodIn_of _ (by decide +kernel)) ggX6_writeHeader_X6_part
theorem dX6_writeHeader_0 : decode cX6_writeHeader 0 = .ok (.iload_n 1, 1) := by decide +kernel
theorem dX6_writeHeader_1 : decode cX6_writeHeader 1 = .ok (.invokestatic 58, 3) := by decide +kernel
theorem dX6_writeHeader_4 : decode cX6_writeHeader 4 = .ok (.istore 5, 2) := by decide +kernel
theorem dX6_writeHeader_6 : decode cX6_writeHeader 6 = .ok (.aload_n 0, 1) := by decide +kernel
theorem dX6_writeHeader_7 : decode cX6_writeHeader 7 = .ok (.iload 5, 2) := by decide +kernel
theorem dX6_writeHeader_9 : decode cX6_writeHeader 9 = .ok (.iload_n 2, 1) := by decide +kernel
theorem dX6_writeHeader_10 : decode cX6_writeHeader 10 = .ok (.invokevirtual 83, 3) := by decide +kernel
theorem dX6_writeHeader_13 : decode cX6_writeHeader 13 = .ok (.aload_n 0, 1) := by decide +kernel
theorem dX6_writeHeader_14 : decode cX6_writeHeader 14 = .ok (.iload 5, 2) := by decide +kernel
theorem dX6_writeHeader_16 : decode cX6_writeHeader 16 = .ok (.iconst 1, 1) := by decide +kernel
theorem dX6_writeHeader_17 : decode cX6_writeHeader 17 = .ok (.iadd, 1) := by decide +kernel
theorem dX6_writeHeader_18 : decode cX6_writeHeader 18 = .ok (.iload_n 3, 1) := by decide +kernel
theorem dX6_writeHeader_19 : decode cX6_writeHeader 19 = .ok (.invokevirtual 83, 3) := by decide +kernel
theorem dX6_writeHeader_22 : decode cX6_writeHeader 22 = .ok (.iconst 0, 1) := by decide +kernel
theorem dX6_writeHeader_23 : decode cX6_writeHeader 23 = .ok (.istore 6, 2) := by decide +kernel
theorem dX6_writeHeader_25 : decode cX6_writeHeader 25 = .ok (.iload 6, 2) := by decide +kernel
theorem dX6_writeHeader_27 : decode cX6_writeHeader 27 = .ok (.iconst 4, 1) := by decide +kernel
theorem dX6_writeHeader_28 : decode cX6_writeHeader 28 = .ok (.if_icmp .ge 27, 3) := by decide +kernel
theorem dX6_writeHeader_31 : decode cX6_writeHeader 31 = .ok (.aload_n 0, 1) := by decide +kernel
theorem dX6_writeHeader_32 : decode cX6_writeHeader 32 = .ok (.iload 5, 2) := by decide +kernel
theorem dX6_writeHeader_34 : decode cX6_writeHeader 34 = .ok (.iconst 2, 1) := by decide +kernel
theorem dX6_writeHeader_35 : decode cX6_writeHeader 35 = .ok (.iadd, 1) := by decide +kernel
theorem dX6_writeHeader_36 : decode cX6_writeHeader 36 = .ok (.iload 6, 2) := by decide +kernel
theorem dX6_writeHeader_38 : decode cX6_writeHeader 38 = .ok (.iadd, 1) := by decide +kernel
theorem dX6_writeHeader_39 : decode cX6_writeHeader 39 = .ok (.iload 4, 2) := by decide +kernel
theorem dX6_writeHeader_41 : decode cX6_writeHeader 41 = .ok (.iload 6, 2) := by decide +kernel
theorem dX6_writeHeader_43 : decode cX6_writeHeader 43 = .ok (.invokestatic 91, 3) := by decide +kernel
theorem dX6_writeHeader_46 : decode cX6_writeHeader 46 = .ok (.invokevirtual 83, 3) := by decide +kernel
theorem dX6_writeHeader_49 : decode cX6_writeHeader 49 = .ok (.iinc 6 1, 3) := by decide +kernel
theorem dX6_writeHeader_52 : decode cX6_writeHeader 52 = .ok (.goto (-27), 3) := by decide +kernel
theorem dX6_writeHeader_55 : decode cX6_writeHeader 55 = .ok (.return_, 1) := by decide +kernel
theorem dX6_manifestByte_0 : decode cX6_manifestByte 0 = .ok (.iload_n 1, 1) := by decide +kernel
theorem dX6_manifestByte_1 : decode cX6_manifestByte 1 = .ok (.ifCond .eq 12, 3) := by decide +kernel
theorem dX6_manifestByte_4 : decode cX6_manifestByte 4 = .ok (.aload_n 0, 1) := by decide +kernel
theorem dX6_manifestByte_5 : decode cX6_manifestByte 5 = .ok (.getfield 16, 3) := by decide +kernel
theorem dX6_manifestByte_8 : decode cX6_manifestByte 8 = .ok (.iload_n 2, 1) := by decide +kernel
theorem dX6_manifestByte_9 : decode cX6_manifestByte 9 = .ok (.iaload, 1) := by decide +kernel
theorem dX6_manifestByte_10 : decode cX6_manifestByte 10 = .ok (.goto 13, 3) := by decide +kernel
theorem dX6_manifestByte_13 : decode cX6_manifestByte 13 = .ok (.aload_n 0, 1) := by decide +kernel
theorem dX6_manifestByte_14 : decode cX6_manifestByte 14 = .ok (.getfield 7, 3) := by decide +kernel
theorem dX6_manifestByte_17 : decode cX6_manifestByte 17 = .ok (.sipush 640, 3) := by decide +kernel
theorem dX6_manifestByte_20 : decode cX6_manifestByte 20 = .ok (.iload_n 2, 1) := by decide +kernel
theorem dX6_manifestByte_21 : decode cX6_manifestByte 21 = .ok (.iadd, 1) := by decide +kernel
theorem dX6_manifestByte_22 : decode cX6_manifestByte 22 = .ok (.iaload, 1) := by decide +kernel
theorem dX6_manifestByte_23 : decode cX6_manifestByte 23 = .ok (.ireturn, 1) := by decide +kernel
set_option maxRecDepth 20000 in
theorem ggX6_manifestFour_X6_manifestByte : GoodIn wsX6_manifestFour wsX6_manifestByte := goodIn_r _ [5, 6, 7, 8, 9, 10, 11, 12, 13, 14, 15, 16, 17, 18, 19, 20] (by decide +kernel) (by decide +kernel)
set_option maxRecDepth 20000 in
theorem gX6_manifestFour_X6_manifestByte : GoodIn wsX6_manifestFour (wsV RX6 94 RX6 yX6_manifestByte wsX6_manifestByte) := goodIn_app (goodIn_of _ (by decide +kernel)) ggX6_manifestFour_X6_manifestByte
theorem dX6_manifestFour_0 : decode cX6_manifestFour 0 = .ok (.iconst 0, 1) := by decide +kernel
theorem dX6_manifestFour_1 : decode cX6_manifestFour 1 = .ok (.istore_n 3, 1) := by decide +kernel
theorem dX6_manifestFour_2 : decode cX6_manifestFour 2 = .ok (.iconst 0, 1) := by decide +kernel
theorem dX6_manifestFour_3 : decode cX6_manifestFour 3 = .ok (.istore 4, 2) := by decide +kernel
theorem dX6_manifestFour_5 : decode cX6_manifestFour 5 = .ok (.iload 4, 2) := by decide +kernel
theorem dX6_manifestFour_7 : decode cX6_manifestFour 7 = .ok (.iconst 4, 1) := by decide +kernel
theorem dX6_manifestFour_8 : decode cX6_manifestFour 8 = .ok (.if_icmp .ge 24, 3) := by decide +kernel
theorem dX6_manifestFour_11 : decode cX6_manifestFour 11 = .ok (.iload_n 3, 1) := by decide +kernel
theorem dX6_manifestFour_12 : decode cX6_manifestFour 12 = .ok (.bipush 8, 2) := by decide +kernel
theorem dX6_manifestFour_14 : decode cX6_manifestFour 14 = .ok (.ishl, 1) := by decide +kernel
theorem dX6_manifestFour_15 : decode cX6_manifestFour 15 = .ok (.aload_n 0, 1) := by decide +kernel
theorem dX6_manifestFour_16 : decode cX6_manifestFour 16 = .ok (.iload_n 1, 1) := by decide +kernel
theorem dX6_manifestFour_17 : decode cX6_manifestFour 17 = .ok (.iload_n 2, 1) := by decide +kernel
theorem dX6_manifestFour_18 : decode cX6_manifestFour 18 = .ok (.iload 4, 2) := by decide +kernel
theorem dX6_manifestFour_20 : decode cX6_manifestFour 20 = .ok (.iadd, 1) := by decide +kernel
theorem dX6_manifestFour_21 : decode cX6_manifestFour 21 = .ok (.invokevirtual 94, 3) := by decide +kernel
theorem dX6_manifestFour_24 : decode cX6_manifestFour 24 = .ok (.ior, 1) := by decide +kernel
theorem dX6_manifestFour_25 : decode cX6_manifestFour 25 = .ok (.istore_n 3, 1) := by decide +kernel
theorem dX6_manifestFour_26 : decode cX6_manifestFour 26 = .ok (.iinc 4 1, 3) := by decide +kernel
theorem dX6_manifestFour_29 : decode cX6_manifestFour 29 = .ok (.goto (-24), 3) := by decide +kernel
theorem dX6_manifestFour_32 : decode cX6_manifestFour 32 = .ok (.iload_n 3, 1) := by decide +kernel
theorem dX6_manifestFour_33 : decode cX6_manifestFour 33 = .ok (.ireturn, 1) := by decide +kernel
theorem dX6_isIn_0 : decode cX6_isIn 0 = .ok (.iload_n 0, 1) := by decide +kernel
theorem dX6_isIn_1 : decode cX6_isIn 1 = .ok (.iload_n 1, 1) := by decide +kernel
theorem dX6_isIn_2 : decode cX6_isIn 2 = .ok (.if_icmp .lt 12, 3) := by decide +kernel
theorem dX6_isIn_5 : decode cX6_isIn 5 = .ok (.iload_n 0, 1) := by decide +kernel
theorem dX6_isIn_6 : decode cX6_isIn 6 = .ok (.iload_n 2, 1) := by decide +kernel
theorem dX6_isIn_7 : decode cX6_isIn 7 = .ok (.if_icmp .gt 7, 3) := by decide +kernel
theorem dX6_isIn_10 : decode cX6_isIn 10 = .ok (.iconst 1, 1) := by decide +kernel
theorem dX6_isIn_11 : decode cX6_isIn 11 = .ok (.goto 4, 3) := by decide +kernel
theorem dX6_isIn_14 : decode cX6_isIn 14 = .ok (.iconst 0, 1) := by decide +kernel
theorem dX6_isIn_15 : decode cX6_isIn 15 = .ok (.ireturn, 1) := by decide +kernel
set_option maxRecDepth 20000 in
theorem ggX6_isInRange_X6_manifestByte : GoodIn wsX6_isInRange wsX6_manifestByte := goodIn_r _ [5, 6, 7, 11, 12, 13, 14, 15, 16, 17, 18, 19, 20, 21, 22, 23] (by decide +kernel) (by decide +kernel)
set_option maxRecDepth 20000 in
theorem gX6_isInRange_X6_manifestByte : GoodIn wsX6_isInRange (wsV RX6 94 RX6 yX6_manifestByte wsX6_manifestByte) := goodIn_app (goodIn_of _ (by decide +kernel)) ggX6_isInRange_X6_manifestByte
set_option maxRecDepth 20000 in
theorem ggX6_isInRange_X6_isIn : GoodIn wsX6_isInRange wsX6_isIn := goodIn_r _ [10] (by decide +kernel) (by decide +kernel)
set_option maxRecDepth 20000 in
theorem gX6_isInRange_X6_isIn : GoodIn wsX6_isInRange (va_wsS RX6 98 yX6_isIn wsX6_isIn) := goodIn_app (goodIn_of _ (by decide +kernel)) ggX6_isInRange_X6_isIn
theorem dX6_isInRange_0 : decode cX6_isInRange 0 = .ok (.aload_n 0, 1) := by decide +kernel
theorem dX6_isInRange_1 : decode cX6_isInRange 1 = .ok (.iload_n 1, 1) := by decide +kernel
theorem dX6_isInRange_2 : decode cX6_isInRange 2 = .ok (.iconst 1, 1) := by decide +kernel
theorem dX6_isInRange_3 : decode cX6_isInRange 3 = .ok (.invokevirtual 94, 3) := by decide +kernel
theorem dX6_isInRange_6 : decode cX6_isInRange 6 = .ok (.iconst 1, 1) := by decide +kernel
theorem dX6_isInRange_7 : decode cX6_isInRange 7 = .ok (.sipush 200, 3) := by decide +kernel
theorem dX6_isInRange_10 : decode cX6_isInRange 10 = .ok (.invokestatic 98, 3) := by decide +kernel
theorem dX6_isInRange_13 : decode cX6_isInRange 13 = .ok (.ifCond .eq 41, 3) := by decide +kernel
theorem dX6_isInRange_16 : decode cX6_isInRange 16 = .ok (.aload_n 0, 1) := by decide +kernel
theorem dX6_isInRange_17 : decode cX6_isInRange 17 = .ok (.iload_n 1, 1) := by decide +kernel
theorem dX6_isInRange_18 : decode cX6_isInRange 18 = .ok (.bipush 6, 2) := by decide +kernel
theorem dX6_isInRange_20 : decode cX6_isInRange 20 = .ok (.invokevirtual 94, 3) := by decide +kernel
theorem dX6_isInRange_23 : decode cX6_isInRange 23 = .ok (.iconst 1, 1) := by decide +kernel
theorem dX6_isInRange_24 : decode cX6_isInRange 24 = .ok (.sipush 192, 3) := by decide +kernel
theorem dX6_isInRange_27 : decode cX6_isInRange 27 = .ok (.invokestatic 98, 3) := by decide +kernel
theorem dX6_isInRange_30 : decode cX6_isInRange 30 = .ok (.ifCond .eq 24, 3) := by decide +kernel
theorem dX6_isInRange_33 : decode cX6_isInRange 33 = .ok (.aload_n 0, 1) := by decide +kernel
theorem dX6_isInRange_34 : decode cX6_isInRange 34 = .ok (.iload_n 1, 1) := by decide +kernel
theorem dX6_isInRange_35 : decode cX6_isInRange 35 = .ok (.bipush 11, 2) := by decide +kernel
theorem dX6_isInRange_37 : decode cX6_isInRange 37 = .ok (.invokevirtual 94, 3) := by decide +kernel
theorem dX6_isInRange_40 : decode cX6_isInRange 40 = .ok (.iconst 1, 1) := by decide +kernel
theorem dX6_isInRange_41 : decode cX6_isInRange 41 = .ok (.sipush 192, 3) := by decide +kernel
theorem dX6_isInRange_44 : decode cX6_isInRange 44 = .ok (.invokestatic 98, 3) := by decide +kernel
theorem dX6_isInRange_47 : decode cX6_isInRange 47 = .ok (.ifCond .eq 7, 3) := by decide +kernel
theorem dX6_isInRange_50 : decode cX6_isInRange 50 = .ok (.iconst 1, 1) := by decide +kernel
theorem dX6_isInRange_51 : decode cX6_isInRange 51 = .ok (.goto 4, 3) := by decide +kernel
theorem dX6_isInRange_54 : decode cX6_isInRange 54 = .ok (.iconst 0, 1) := by decide +kernel
theorem dX6_isInRange_55 : decode cX6_isInRange 55 = .ok (.ireturn, 1) := by decide +kernel
set_option maxRecDepth 20000 in
theorem ggX6_isTagged_X6_digested : GoodIn wsX6_isTagged wsX6_digested := goodIn_r _ [6, 7] (by decide +kernel) (by decide +kernel)
set_option maxRecDepth 20000 in
theorem gX6_isTagged_X6_digested : GoodIn wsX6_isTagged (va_wsS RX6 50 yX6_digested wsX6_digested) := goodIn_app (goodIn_of _ (by decide +kernel)) ggX6_isTagged_X6_digested
set_option maxRecDepth 20000 in
theorem ggX6_isTagged_X6_manifestByte : GoodIn wsX6_isTagged wsX6_manifestByte := goodIn_r _ [11, 12, 13, 18, 19, 20, 21, 22, 23, 24, 25, 26, 27, 28, 29, 30] (by decide +kernel) (by decide +kernel)
set_option maxRecDepth 20000 in
theorem gX6_isTagged_X6_manifestByte : GoodIn wsX6_isTagged (wsV RX6 94 RX6 yX6_manifestByte wsX6_manifestByte) := goodIn_app (goodIn_of _ (by decide +kernel)) ggX6_isTagged_X6_manifestByte
set_option maxRecDepth 20000 in
theorem ggX6_isTagged_X6_manifestFour : GoodIn wsX6_isTagged wsX6_manifestFour := goodIn_r _ [17, 8, 9, 10, 5, 11, 12, 13, 18, 19, 20, 21, 22, 23, 24, 25, 26, 27, 28, 29, 30] (by decide +kernel) (by decide +kernel)
set_option maxRecDepth 20000 in
theorem gX6_isTagged_X6_manifestFour : GoodIn wsX6_isTagged (wsV RX6 102 RX6 yX6_manifestFour wsX6_manifestFour) := goodIn_app (goodIn_of _ (by decide +kernel)) ggX6_isTagged_X6_manifestFour
theorem dX6_isTagged_0 : decode cX6_isTagged 0 = .ok (.iconst 0, 1) := by decide +kernel
theorem dX6_isTagged_1 : decode cX6_isTagged 1 = .ok (.istore_n 2, 1) := by decide +kernel
theorem dX6_isTagged_2 : decode cX6_isTagged 2 = .ok (.iconst 0, 1) := by decide +kernel
theorem dX6_isTagged_3 : decode cX6_isTagged 3 = .ok (.istore_n 3, 1) := by decide +kernel
theorem dX6_isTagged_4 : decode cX6_isTagged 4 = .ok (.iload_n 3, 1) := by decide +kernel
theorem dX6_isTagged_5 : decode cX6_isTagged 5 = .ok (.bipush 8, 2) := by decide +kernel
theorem dX6_isTagged_7 : decode cX6_isTagged 7 = .ok (.if_icmp .ge 20, 3) := by decide +kernel
theorem dX6_isTagged_10 : decode cX6_isTagged 10 = .ok (.iload_n 2, 1) := by decide +kernel
theorem dX6_isTagged_11 : decode cX6_isTagged 11 = .ok (.aload_n 0, 1) := by decide +kernel
theorem dX6_isTagged_12 : decode cX6_isTagged 12 = .ok (.getfield 13, 3) := by decide +kernel
theorem dX6_isTagged_15 : decode cX6_isTagged 15 = .ok (.iload_n 3, 1) := by decide +kernel
theorem dX6_isTagged_16 : decode cX6_isTagged 16 = .ok (.iaload, 1) := by decide +kernel
theorem dX6_isTagged_17 : decode cX6_isTagged 17 = .ok (.invokestatic 50, 3) := by decide +kernel
theorem dX6_isTagged_20 : decode cX6_isTagged 20 = .ok (.istore_n 2, 1) := by decide +kernel
theorem dX6_isTagged_21 : decode cX6_isTagged 21 = .ok (.iinc 3 1, 3) := by decide +kernel
theorem dX6_isTagged_24 : decode cX6_isTagged 24 = .ok (.goto (-20), 3) := by decide +kernel
theorem dX6_isTagged_27 : decode cX6_isTagged 27 = .ok (.iconst 0, 1) := by decide +kernel
theorem dX6_isTagged_28 : decode cX6_isTagged 28 = .ok (.istore_n 3, 1) := by decide +kernel
theorem dX6_isTagged_29 : decode cX6_isTagged 29 = .ok (.iload_n 3, 1) := by decide +kernel
theorem dX6_isTagged_30 : decode cX6_isTagged 30 = .ok (.bipush 16, 2) := by decide +kernel
theorem dX6_isTagged_32 : decode cX6_isTagged 32 = .ok (.if_icmp .ge 20, 3) := by decide +kernel
theorem dX6_isTagged_35 : decode cX6_isTagged 35 = .ok (.iload_n 2, 1) := by decide +kernel
theorem dX6_isTagged_36 : decode cX6_isTagged 36 = .ok (.aload_n 0, 1) := by decide +kernel
theorem dX6_isTagged_37 : decode cX6_isTagged 37 = .ok (.iload_n 1, 1) := by decide +kernel
theorem dX6_isTagged_38 : decode cX6_isTagged 38 = .ok (.iload_n 3, 1) := by decide +kernel
theorem dX6_isTagged_39 : decode cX6_isTagged 39 = .ok (.invokevirtual 94, 3) := by decide +kernel
theorem dX6_isTagged_42 : decode cX6_isTagged 42 = .ok (.invokestatic 50, 3) := by decide +kernel
theorem dX6_isTagged_45 : decode cX6_isTagged 45 = .ok (.istore_n 2, 1) := by decide +kernel
theorem dX6_isTagged_46 : decode cX6_isTagged 46 = .ok (.iinc 3 1, 3) := by decide +kernel
theorem dX6_isTagged_49 : decode cX6_isTagged 49 = .ok (.goto (-20), 3) := by decide +kernel
theorem dX6_isTagged_52 : decode cX6_isTagged 52 = .ok (.iload_n 2, 1) := by decide +kernel
theorem dX6_isTagged_53 : decode cX6_isTagged 53 = .ok (.aload_n 0, 1) := by decide +kernel
theorem dX6_isTagged_54 : decode cX6_isTagged 54 = .ok (.iload_n 1, 1) := by decide +kernel
theorem dX6_isTagged_55 : decode cX6_isTagged 55 = .ok (.bipush 16, 2) := by decide +kernel
theorem dX6_isTagged_57 : decode cX6_isTagged 57 = .ok (.invokevirtual 102, 3) := by decide +kernel
theorem dX6_isTagged_60 : decode cX6_isTagged 60 = .ok (.if_icmp .ne 20, 3) := by decide +kernel
theorem dX6_isTagged_63 : decode cX6_isTagged 63 = .ok (.aload_n 0, 1) := by decide +kernel
theorem dX6_isTagged_64 : decode cX6_isTagged 64 = .ok (.iload_n 1, 1) := by decide +kernel
theorem dX6_isTagged_65 : decode cX6_isTagged 65 = .ok (.iconst 0, 1) := by decide +kernel
theorem dX6_isTagged_66 : decode cX6_isTagged 66 = .ok (.invokevirtual 94, 3) := by decide +kernel
theorem dX6_isTagged_69 : decode cX6_isTagged 69 = .ok (.aload_n 0, 1) := by decide +kernel
theorem dX6_isTagged_70 : decode cX6_isTagged 70 = .ok (.getfield 33, 3) := by decide +kernel
theorem dX6_isTagged_73 : decode cX6_isTagged 73 = .ok (.if_icmp .ne 7, 3) := by decide +kernel
theorem dX6_isTagged_76 : decode cX6_isTagged 76 = .ok (.iconst 1, 1) := by decide +kernel
theorem dX6_isTagged_77 : decode cX6_isTagged 77 = .ok (.goto 4, 3) := by decide +kernel
theorem dX6_isTagged_80 : decode cX6_isTagged 80 = .ok (.iconst 0, 1) := by decide +kernel
theorem dX6_isTagged_81 : decode cX6_isTagged 81 = .ok (.ireturn, 1) := by decide +kernel
set_option maxRecDepth 20000 in
theorem ggX6_isRight_X6_isInRange : GoodIn wsX6_isRight wsX6_isInRange := goodIn_r _ [5, 6, 7, 8, 4, 9, 10, 11, 12, 13, 14, 29, 30, 31, 32, 33, 34, 35, 36, 37, 38, 39, 40, 41] (by decide +kernel) (by decide +kernel)
set_option maxRecDepth 20000 in
theorem gX6_isRight_X6_isInRange : GoodIn wsX6_isRight (wsV RX6 105 RX6 yX6_isInRange wsX6_isInRange) := goodIn_app (goodIn_of _ (by decide +kernel)) ggX6_isRight_X6_isInRange
set_option maxRecDepth 20000 in
theorem ggX6_isRight_X6_isTagged : GoodIn wsX6_isRight wsX6_isTagged := goodIn_r _ [18, 19, 20, 21, 22, 4, 23, 24, 6, 7, 8, 9, 10, 11, 25, 26, 27, 28, 29, 30, 31, 32, 33, 34, 35, 36, 37, 38, 39, 40, 41] (by decide +kernel) (by decide +kernel)
set_option maxRecDepth 20000 in
theorem gX6_isRight_X6_isTagged : GoodIn wsX6_isRight (wsV RX6 109 RX6 yX6_isTagged wsX6_isTagged) := goodIn_app (goodIn_of _ (by decide +kernel)) ggX6_isRight_X6_isTagged
theorem dX6_isRight_0 : decode cX6_isRight 0 = .ok (.aload_n 0, 1) := by decide +kernel
theorem dX6_isRight_1 : decode cX6_isRight 1 = .ok (.iconst 0, 1) := by decide +kernel
theorem dX6_isRight_2 : decode cX6_isRight 2 = .ok (.invokevirtual 105, 3) := by decide +kernel
theorem dX6_isRight_5 : decode cX6_isRight 5 = .ok (.ifCond .eq 15, 3) := by decide +kernel
theorem dX6_isRight_8 : decode cX6_isRight 8 = .ok (.aload_n 0, 1) := by decide +kernel
theorem dX6_isRight_9 : decode cX6_isRight 9 = .ok (.iconst 0, 1) := by decide +kernel
theorem dX6_isRight_10 : decode cX6_isRight 10 = .ok (.invokevirtual 109, 3) := by decide +kernel
theorem dX6_isRight_13 : decode cX6_isRight 13 = .ok (.ifCond .eq 7, 3) := by decide +kernel
theorem dX6_isRight_16 : decode cX6_isRight 16 = .ok (.iconst 1, 1) := by decide +kernel
theorem dX6_isRight_17 : decode cX6_isRight 17 = .ok (.goto 4, 3) := by decide +kernel
theorem dX6_isRight_20 : decode cX6_isRight 20 = .ok (.iconst 0, 1) := by decide +kernel
theorem dX6_isRight_21 : decode cX6_isRight 21 = .ok (.ireturn, 1) := by decide +kernel
set_option maxRecDepth 20000 in
theorem ggX6_isOld_X6_manifestByte : GoodIn wsX6_isOld wsX6_manifestByte := goodIn_r _ [6, 7, 8, 23, 24, 25, 26, 27, 28, 29, 30, 31, 32, 33, 34, 35] (by decide +kernel) (by decide +kernel)
set_option maxRecDepth 20000 in
theorem gX6_isOld_X6_manifestByte : GoodIn wsX6_isOld (wsV RX6 94 RX6 yX6_manifestByte wsX6_manifestByte) := goodIn_app (goodIn_of _ (by decide +kernel)) ggX6_isOld_X6_manifestByte
set_option maxRecDepth 20000 in
theorem ggX6_isOld_X6_counterValue : GoodIn wsX6_isOld wsX6_counterValue := goodIn_r _ [12, 8, 13, 14, 5, 15, 23, 24, 25, 26, 27, 28, 29, 30, 31, 32, 33, 34, 35] (by decide +kernel) (by decide +kernel)
set_option maxRecDepth 20000 in
theorem gX6_isOld_X6_counterValue : GoodIn wsX6_isOld (wsV RX6 70 RX6 yX6_counterValue wsX6_counterValue) := goodIn_app (goodIn_of _ (by decide +kernel)) ggX6_isOld_X6_counterValue
set_option maxRecDepth 20000 in
theorem ggX6_isOld_X6_sequenceOf : GoodIn wsX6_isOld wsX6_sequenceOf := goodIn_r _ [19, 8, 20, 21, 5, 22, 23, 24, 25, 26, 27, 28, 29, 30, 31, 32, 33, 34, 35] (by decide +kernel) (by decide +kernel)
set_option maxRecDepth 20000 in
theorem gX6_isOld_X6_sequenceOf : GoodIn wsX6_isOld (wsV RX6 112 RX6 yX6_sequenceOf wsX6_sequenceOf) := goodIn_app (goodIn_of _ (by decide +kernel)) ggX6_isOld_X6_sequenceOf
theorem dX6_isOld_0 : decode cX6_isOld 0 = .ok (.aload_n 0, 1) := by decide +kernel
theorem dX6_isOld_1 : decode cX6_isOld 1 = .ok (.iload_n 1, 1) := by decide +kernel
theorem dX6_isOld_2 : decode cX6_isOld 2 = .ok (.iconst 1, 1) := by decide +kernel
theorem dX6_isOld_3 : decode cX6_isOld 3 = .ok (.invokevirtual 94, 3) := by decide +kernel
theorem dX6_isOld_6 : decode cX6_isOld 6 = .ok (.istore_n 2, 1) := by decide +kernel
theorem dX6_isOld_7 : decode cX6_isOld 7 = .ok (.iload_n 2, 1) := by decide +kernel
theorem dX6_isOld_8 : decode cX6_isOld 8 = .ok (.aload_n 0, 1) := by decide +kernel
theorem dX6_isOld_9 : decode cX6_isOld 9 = .ok (.invokevirtual 70, 3) := by decide +kernel
theorem dX6_isOld_12 : decode cX6_isOld 12 = .ok (.if_icmp .le 24, 3) := by decide +kernel
theorem dX6_isOld_15 : decode cX6_isOld 15 = .ok (.aload_n 0, 1) := by decide +kernel
theorem dX6_isOld_16 : decode cX6_isOld 16 = .ok (.getfield 23, 3) := by decide +kernel
theorem dX6_isOld_19 : decode cX6_isOld 19 = .ok (.bipush (-7), 2) := by decide +kernel
theorem dX6_isOld_21 : decode cX6_isOld 21 = .ok (.if_icmp .eq 15, 3) := by decide +kernel
theorem dX6_isOld_24 : decode cX6_isOld 24 = .ok (.aload_n 0, 1) := by decide +kernel
theorem dX6_isOld_25 : decode cX6_isOld 25 = .ok (.aload_n 0, 1) := by decide +kernel
theorem dX6_isOld_26 : decode cX6_isOld 26 = .ok (.getfield 23, 3) := by decide +kernel
theorem dX6_isOld_29 : decode cX6_isOld 29 = .ok (.invokevirtual 112, 3) := by decide +kernel
theorem dX6_isOld_32 : decode cX6_isOld 32 = .ok (.iload_n 2, 1) := by decide +kernel
theorem dX6_isOld_33 : decode cX6_isOld 33 = .ok (.if_icmp .lt 7, 3) := by decide +kernel
theorem dX6_isOld_36 : decode cX6_isOld 36 = .ok (.iconst 1, 1) := by decide +kernel
theorem dX6_isOld_37 : decode cX6_isOld 37 = .ok (.goto 4, 3) := by decide +kernel
theorem dX6_isOld_40 : decode cX6_isOld 40 = .ok (.iconst 0, 1) := by decide +kernel
theorem dX6_isOld_41 : decode cX6_isOld 41 = .ok (.ireturn, 1) := by decide +kernel
set_option maxRecDepth 20000 in
theorem ggX6_manifest_X6_isInRange : GoodIn wsX6_manifest wsX6_isInRange := goodIn_r _ [10, 11, 12, 13, 9, 14, 5, 4, 15, 16, 17, 66, 67, 68, 69, 70, 71, 72, 73, 74, 75, 76, 77, 78] (by decide +kernel) (by decide +kernel)
set_option maxRecDepth 20000 in
theorem gX6_manifest_X6_isInRange : GoodIn wsX6_manifest (wsV RX6 105 RX6 yX6_isInRange wsX6_isInRange) := goodIn_app (goodIn_of _ (by decide +kernel)) ggX6_manifest_X6_isInRange
set_option maxRecDepth 20000 in
theorem ggX6_manifest_X6_isTagged : GoodIn wsX6_manifest wsX6_isTagged := goodIn_r _ [21, 22, 23, 24, 25, 9, 26, 27, 11, 12, 13, 14, 5, 4, 28, 29, 30, 31, 66, 67, 68, 69, 70, 71, 72, 73, 74, 75, 76, 77, 78] (by decide +kernel) (by decide +kernel)
set_option maxRecDepth 20000 in
theorem gX6_manifest_X6_isTagged : GoodIn wsX6_manifest (wsV RX6 109 RX6 yX6_isTagged wsX6_isTagged) := goodIn_app (goodIn_of _ (by decide +kernel)) ggX6_manifest_X6_isTagged
set_option maxRecDepth 20000 in
theorem ggX6_manifest_X6_isOld : GoodIn wsX6_manifest wsX6_isOld := goodIn_r _ [35, 36, 11, 12, 13, 9, 14, 5, 4, 37, 38, 39, 40, 41, 42, 43, 44, 45, 46, 47, 48, 49, 50, 66, 67, 68, 69, 70, 71, 72, 73, 74, 75, 76, 77, 78] (by decide +kernel) (by decide +kernel)
set_option maxRecDepth 20000 in
theorem gX6_manifest_X6_isOld : GoodIn wsX6_manifest (wsV RX6 115 RX6 yX6_isOld wsX6_isOld) := goodIn_app (goodIn_of _ (by decide +kernel)) ggX6_manifest_X6_isOld
set_option maxRecDepth 20000 in
theorem ggX6_manifest_X6_erase : GoodIn wsX6_manifest wsX6_erase := goodIn_r _ [54, 2, 55, 4, 56, 57, 58, 9, 59, 60, 61, 36, 66, 67, 68, 69, 70, 71, 72, 73, 74, 75, 76, 77, 78] (by decide +kernel) (by decide +kernel)
set_option maxRecDepth 20000 in
theorem gX6_manifest_X6_erase : GoodIn wsX6_manifest (wsV RX6 79 RX6 yX6_erase wsX6_erase) := goodIn_app (goodIn_of _ (by decide +kernel)) ggX6_manifest_X6_erase
set_option maxRecDepth 20000 in
theorem ggX6_manifest_X6_program : GoodIn wsX6_manifest wsX6_program := goodIn_r _ [65, 2, 4, 55, 56, 57, 58, 9, 59, 60, 61, 36, 66, 67, 68, 69, 70, 71, 72, 73, 74, 75, 76, 77, 78] (by decide +kernel) (by decide +kernel)
set_option maxRecDepth 20000 in
theorem gX6_manifest_X6_program : GoodIn wsX6_manifest (wsV RX6 83 RX6 yX6_program wsX6_program) := goodIn_app (goodIn_of _ (by decide +kernel)) ggX6_manifest_X6_program
theorem dX6_manifest_0 : decode cX6_manifest 0 = .ok (.aload_n 0, 1) := by decide +kernel
theorem dX6_manifest_1 : decode cX6_manifest 1 = .ok (.iconst 0, 1) := by decide +kernel
theorem dX6_manifest_2 : decode cX6_manifest 2 = .ok (.putfield 36, 3) := by decide +kernel
theorem dX6_manifest_5 : decode cX6_manifest 5 = .ok (.aload_n 0, 1) := by decide +kernel
theorem dX6_manifest_6 : decode cX6_manifest 6 = .ok (.getfield 19, 3) := by decide +kernel
theorem dX6_manifest_9 : decode cX6_manifest 9 = .ok (.ifCond .ne 6, 3) := by decide +kernel
theorem dX6_manifest_12 : decode cX6_manifest 12 = .ok (.bipush (-2), 2) := by decide +kernel
theorem dX6_manifest_14 : decode cX6_manifest 14 = .ok (.ireturn, 1) := by decide +kernel
theorem dX6_manifest_15 : decode cX6_manifest 15 = .ok (.aload_n 0, 1) := by decide +kernel
theorem dX6_manifest_16 : decode cX6_manifest 16 = .ok (.getfield 74, 3) := by decide +kernel
theorem dX6_manifest_19 : decode cX6_manifest 19 = .ok (.istore_n 1, 1) := by decide +kernel
theorem dX6_manifest_20 : decode cX6_manifest 20 = .ok (.aload_n 0, 1) := by decide +kernel
theorem dX6_manifest_21 : decode cX6_manifest 21 = .ok (.iconst 0, 1) := by decide +kernel
theorem dX6_manifest_22 : decode cX6_manifest 22 = .ok (.putfield 74, 3) := by decide +kernel
theorem dX6_manifest_25 : decode cX6_manifest 25 = .ok (.iload_n 1, 1) := by decide +kernel
theorem dX6_manifest_26 : decode cX6_manifest 26 = .ok (.bipush 20, 2) := by decide +kernel
theorem dX6_manifest_28 : decode cX6_manifest 28 = .ok (.if_icmp .ne 11, 3) := by decide +kernel
theorem dX6_manifest_31 : decode cX6_manifest 31 = .ok (.aload_n 0, 1) := by decide +kernel
theorem dX6_manifest_32 : decode cX6_manifest 32 = .ok (.iconst 1, 1) := by decide +kernel
theorem dX6_manifest_33 : decode cX6_manifest 33 = .ok (.invokevirtual 105, 3) := by decide +kernel
theorem dX6_manifest_36 : decode cX6_manifest 36 = .ok (.ifCond .ne 5, 3) := by decide +kernel
theorem dX6_manifest_39 : decode cX6_manifest 39 = .ok (.iconst (-1), 1) := by decide +kernel
theorem dX6_manifest_40 : decode cX6_manifest 40 = .ok (.ireturn, 1) := by decide +kernel
theorem dX6_manifest_41 : decode cX6_manifest 41 = .ok (.aload_n 0, 1) := by decide +kernel
theorem dX6_manifest_42 : decode cX6_manifest 42 = .ok (.iconst 1, 1) := by decide +kernel
theorem dX6_manifest_43 : decode cX6_manifest 43 = .ok (.invokevirtual 109, 3) := by decide +kernel
theorem dX6_manifest_46 : decode cX6_manifest 46 = .ok (.ifCond .ne 6, 3) := by decide +kernel
theorem dX6_manifest_49 : decode cX6_manifest 49 = .ok (.bipush (-4), 2) := by decide +kernel
theorem dX6_manifest_51 : decode cX6_manifest 51 = .ok (.ireturn, 1) := by decide +kernel
theorem dX6_manifest_52 : decode cX6_manifest 52 = .ok (.aload_n 0, 1) := by decide +kernel
theorem dX6_manifest_53 : decode cX6_manifest 53 = .ok (.iconst 1, 1) := by decide +kernel
theorem dX6_manifest_54 : decode cX6_manifest 54 = .ok (.invokevirtual 115, 3) := by decide +kernel
theorem dX6_manifest_57 : decode cX6_manifest 57 = .ok (.ifCond .eq 6, 3) := by decide +kernel
theorem dX6_manifest_60 : decode cX6_manifest 60 = .ok (.bipush (-3), 2) := by decide +kernel
theorem dX6_manifest_62 : decode cX6_manifest 62 = .ok (.ireturn, 1) := by decide +kernel
theorem dX6_manifest_63 : decode cX6_manifest 63 = .ok (.iconst 1, 1) := by decide +kernel
theorem dX6_manifest_64 : decode cX6_manifest 64 = .ok (.istore_n 2, 1) := by decide +kernel
theorem dX6_manifest_65 : decode cX6_manifest 65 = .ok (.iconst 0, 1) := by decide +kernel
theorem dX6_manifest_66 : decode cX6_manifest 66 = .ok (.istore_n 3, 1) := by decide +kernel
theorem dX6_manifest_67 : decode cX6_manifest 67 = .ok (.iload_n 3, 1) := by decide +kernel
theorem dX6_manifest_68 : decode cX6_manifest 68 = .ok (.bipush 20, 2) := by decide +kernel
theorem dX6_manifest_70 : decode cX6_manifest 70 = .ok (.if_icmp .ge 38, 3) := by decide +kernel
theorem dX6_manifest_73 : decode cX6_manifest 73 = .ok (.iload_n 2, 1) := by decide +kernel
theorem dX6_manifest_74 : decode cX6_manifest 74 = .ok (.ifCond .eq 26, 3) := by decide +kernel
theorem dX6_manifest_77 : decode cX6_manifest 77 = .ok (.aload_n 0, 1) := by decide +kernel
theorem dX6_manifest_78 : decode cX6_manifest 78 = .ok (.getfield 7, 3) := by decide +kernel
theorem dX6_manifest_81 : decode cX6_manifest 81 = .ok (.sipush 640, 3) := by decide +kernel
theorem dX6_manifest_84 : decode cX6_manifest 84 = .ok (.iload_n 3, 1) := by decide +kernel
theorem dX6_manifest_85 : decode cX6_manifest 85 = .ok (.iadd, 1) := by decide +kernel
theorem dX6_manifest_86 : decode cX6_manifest 86 = .ok (.iaload, 1) := by decide +kernel
theorem dX6_manifest_87 : decode cX6_manifest 87 = .ok (.aload_n 0, 1) := by decide +kernel
theorem dX6_manifest_88 : decode cX6_manifest 88 = .ok (.getfield 16, 3) := by decide +kernel
theorem dX6_manifest_91 : decode cX6_manifest 91 = .ok (.iload_n 3, 1) := by decide +kernel
theorem dX6_manifest_92 : decode cX6_manifest 92 = .ok (.iaload, 1) := by decide +kernel
theorem dX6_manifest_93 : decode cX6_manifest 93 = .ok (.if_icmp .ne 7, 3) := by decide +kernel
theorem dX6_manifest_96 : decode cX6_manifest 96 = .ok (.iconst 1, 1) := by decide +kernel
theorem dX6_manifest_97 : decode cX6_manifest 97 = .ok (.goto 4, 3) := by decide +kernel
theorem dX6_manifest_100 : decode cX6_manifest 100 = .ok (.iconst 0, 1) := by decide +kernel
theorem dX6_manifest_101 : decode cX6_manifest 101 = .ok (.istore_n 2, 1) := by decide +kernel
theorem dX6_manifest_102 : decode cX6_manifest 102 = .ok (.iinc 3 1, 3) := by decide +kernel
theorem dX6_manifest_105 : decode cX6_manifest 105 = .ok (.goto (-38), 3) := by decide +kernel
theorem dX6_manifest_108 : decode cX6_manifest 108 = .ok (.iload_n 2, 1) := by decide +kernel
theorem dX6_manifest_109 : decode cX6_manifest 109 = .ok (.ifCond .eq 5, 3) := by decide +kernel
theorem dX6_manifest_112 : decode cX6_manifest 112 = .ok (.iconst 1, 1) := by decide +kernel
theorem dX6_manifest_113 : decode cX6_manifest 113 = .ok (.ireturn, 1) := by decide +kernel
theorem dX6_manifest_114 : decode cX6_manifest 114 = .ok (.aload_n 0, 1) := by decide +kernel
theorem dX6_manifest_115 : decode cX6_manifest 115 = .ok (.bipush 21, 2) := by decide +kernel
theorem dX6_manifest_117 : decode cX6_manifest 117 = .ok (.invokevirtual 79, 3) := by decide +kernel
theorem dX6_manifest_120 : decode cX6_manifest 120 = .ok (.aload_n 0, 1) := by decide +kernel
theorem dX6_manifest_121 : decode cX6_manifest 121 = .ok (.bipush 20, 2) := by decide +kernel
theorem dX6_manifest_123 : decode cX6_manifest 123 = .ok (.invokevirtual 79, 3) := by decide +kernel
theorem dX6_manifest_126 : decode cX6_manifest 126 = .ok (.bipush 14, 2) := by decide +kernel
theorem dX6_manifest_128 : decode cX6_manifest 128 = .ok (.istore_n 3, 1) := by decide +kernel
theorem dX6_manifest_129 : decode cX6_manifest 129 = .ok (.iload_n 3, 1) := by decide +kernel
theorem dX6_manifest_130 : decode cX6_manifest 130 = .ok (.bipush 20, 2) := by decide +kernel
theorem dX6_manifest_132 : decode cX6_manifest 132 = .ok (.if_icmp .ge 14, 3) := by decide +kernel
theorem dX6_manifest_135 : decode cX6_manifest 135 = .ok (.aload_n 0, 1) := by decide +kernel
theorem dX6_manifest_136 : decode cX6_manifest 136 = .ok (.iload_n 3, 1) := by decide +kernel
theorem dX6_manifest_137 : decode cX6_manifest 137 = .ok (.invokevirtual 79, 3) := by decide +kernel
theorem dX6_manifest_140 : decode cX6_manifest 140 = .ok (.iinc 3 1, 3) := by decide +kernel
theorem dX6_manifest_143 : decode cX6_manifest 143 = .ok (.goto (-14), 3) := by decide +kernel
theorem dX6_manifest_146 : decode cX6_manifest 146 = .ok (.iconst 0, 1) := by decide +kernel
theorem dX6_manifest_147 : decode cX6_manifest 147 = .ok (.istore_n 3, 1) := by decide +kernel
theorem dX6_manifest_148 : decode cX6_manifest 148 = .ok (.iload_n 3, 1) := by decide +kernel
theorem dX6_manifest_149 : decode cX6_manifest 149 = .ok (.bipush 20, 2) := by decide +kernel
theorem dX6_manifest_151 : decode cX6_manifest 151 = .ok (.if_icmp .ge 24, 3) := by decide +kernel
theorem dX6_manifest_154 : decode cX6_manifest 154 = .ok (.aload_n 0, 1) := by decide +kernel
theorem dX6_manifest_155 : decode cX6_manifest 155 = .ok (.sipush 640, 3) := by decide +kernel
theorem dX6_manifest_158 : decode cX6_manifest 158 = .ok (.iload_n 3, 1) := by decide +kernel
theorem dX6_manifest_159 : decode cX6_manifest 159 = .ok (.iadd, 1) := by decide +kernel
theorem dX6_manifest_160 : decode cX6_manifest 160 = .ok (.aload_n 0, 1) := by decide +kernel
theorem dX6_manifest_161 : decode cX6_manifest 161 = .ok (.getfield 16, 3) := by decide +kernel
theorem dX6_manifest_164 : decode cX6_manifest 164 = .ok (.iload_n 3, 1) := by decide +kernel
theorem dX6_manifest_165 : decode cX6_manifest 165 = .ok (.iaload, 1) := by decide +kernel
theorem dX6_manifest_166 : decode cX6_manifest 166 = .ok (.invokevirtual 83, 3) := by decide +kernel
theorem dX6_manifest_169 : decode cX6_manifest 169 = .ok (.iinc 3 1, 3) := by decide +kernel
theorem dX6_manifest_172 : decode cX6_manifest 172 = .ok (.goto (-24), 3) := by decide +kernel
theorem dX6_manifest_175 : decode cX6_manifest 175 = .ok (.aload_n 0, 1) := by decide +kernel
theorem dX6_manifest_176 : decode cX6_manifest 176 = .ok (.getfield 19, 3) := by decide +kernel
theorem dX6_manifest_179 : decode cX6_manifest 179 = .ok (.ifCond .eq 7, 3) := by decide +kernel
theorem dX6_manifest_182 : decode cX6_manifest 182 = .ok (.iconst 0, 1) := by decide +kernel
theorem dX6_manifest_183 : decode cX6_manifest 183 = .ok (.goto 5, 3) := by decide +kernel
theorem dX6_manifest_186 : decode cX6_manifest 186 = .ok (.bipush (-2), 2) := by decide +kernel
theorem dX6_manifest_188 : decode cX6_manifest 188 = .ok (.ireturn, 1) := by decide +kernel
theorem dX6_blocks_0 : decode cX6_blocks 0 = .ok (.aload_n 0, 1) := by decide +kernel
theorem dX6_blocks_1 : decode cX6_blocks 1 = .ok (.getfield 7, 3) := by decide +kernel
theorem dX6_blocks_4 : decode cX6_blocks 4 = .ok (.sipush 646, 3) := by decide +kernel
theorem dX6_blocks_7 : decode cX6_blocks 7 = .ok (.iaload, 1) := by decide +kernel
theorem dX6_blocks_8 : decode cX6_blocks 8 = .ok (.bipush 15, 2) := by decide +kernel
theorem dX6_blocks_10 : decode cX6_blocks 10 = .ok (.iadd, 1) := by decide +kernel
theorem dX6_blocks_11 : decode cX6_blocks 11 = .ok (.bipush 16, 2) := by decide +kernel
theorem dX6_blocks_13 : decode cX6_blocks 13 = .ok (.idiv, 1) := by decide +kernel
theorem dX6_blocks_14 : decode cX6_blocks 14 = .ok (.ireturn, 1) := by decide +kernel
set_option maxRecDepth 20000 in
theorem ggX6_block_X6_isRight : GoodIn wsX6_block wsX6_isRight := goodIn_r _ [10, 11, 12, 13, 9, 14, 15, 16, 17, 18, 5, 3, 19, 20, 21, 22, 23, 24, 25, 26, 27, 28, 29, 30, 31, 32, 33, 34, 35, 52, 53, 54, 55, 56, 57, 58, 59, 60, 61, 62, 63, 64] (by decide +kernel) (by decide +kernel)
set_option maxRecDepth 20000 in
theorem gX6_block_X6_isRight : GoodIn wsX6_block (wsV RX6 118 RX6 yX6_isRight wsX6_isRight) := goodIn_app (goodIn_of _ (by decide +kernel)) ggX6_block_X6_isRight
set_option maxRecDepth 20000 in
theorem ggX6_block_X6_blocks : GoodIn wsX6_block wsX6_blocks := goodIn_r _ [39, 3, 52, 53, 54, 55, 56, 57, 58, 59, 60, 61, 62, 63, 64] (by decide +kernel) (by decide +kernel)
set_option maxRecDepth 20000 in
theorem gX6_block_X6_blocks : GoodIn wsX6_block (wsV RX6 121 RX6 yX6_blocks wsX6_blocks) := goodIn_app (goodIn_of _ (by decide +kernel)) ggX6_block_X6_blocks
set_option maxRecDepth 20000 in
theorem ggX6_block_X6_program : GoodIn wsX6_block wsX6_program := goodIn_r _ [43, 2, 3, 44, 45, 46, 47, 9, 48, 49, 50, 51, 52, 53, 54, 55, 56, 57, 58, 59, 60, 61, 62, 63, 64] (by decide +kernel) (by decide +kernel)
set_option maxRecDepth 20000 in
theorem gX6_block_X6_program : GoodIn wsX6_block (wsV RX6 83 RX6 yX6_program wsX6_program) := goodIn_app (goodIn_of _ (by decide +kernel)) ggX6_block_X6_program
theorem dX6_block_0 : decode cX6_block 0 = .ok (.aload_n 0, 1) := by decide +kernel
theorem dX6_block_1 : decode cX6_block 1 = .ok (.iconst 0, 1) := by decide +kernel
theorem dX6_block_2 : decode cX6_block 2 = .ok (.putfield 36, 3) := by decide +kernel
theorem dX6_block_5 : decode cX6_block 5 = .ok (.aload_n 0, 1) := by decide +kernel
theorem dX6_block_6 : decode cX6_block 6 = .ok (.getfield 19, 3) := by decide +kernel
theorem dX6_block_9 : decode cX6_block 9 = .ok (.ifCond .ne 6, 3) := by decide +kernel
theorem dX6_block_12 : decode cX6_block 12 = .ok (.bipush (-2), 2) := by decide +kernel
theorem dX6_block_14 : decode cX6_block 14 = .ok (.ireturn, 1) := by decide +kernel
theorem dX6_block_15 : decode cX6_block 15 = .ok (.aload_n 0, 1) := by decide +kernel
theorem dX6_block_16 : decode cX6_block 16 = .ok (.invokevirtual 118, 3) := by decide +kernel
theorem dX6_block_19 : decode cX6_block 19 = .ok (.ifCond .eq 15, 3) := by decide +kernel
theorem dX6_block_22 : decode cX6_block 22 = .ok (.iload_n 1, 1) := by decide +kernel
theorem dX6_block_23 : decode cX6_block 23 = .ok (.ifCond .lt 11, 3) := by decide +kernel
theorem dX6_block_26 : decode cX6_block 26 = .ok (.iload_n 1, 1) := by decide +kernel
theorem dX6_block_27 : decode cX6_block 27 = .ok (.aload_n 0, 1) := by decide +kernel
theorem dX6_block_28 : decode cX6_block 28 = .ok (.invokevirtual 121, 3) := by decide +kernel
theorem dX6_block_31 : decode cX6_block 31 = .ok (.if_icmp .lt 5, 3) := by decide +kernel
theorem dX6_block_34 : decode cX6_block 34 = .ok (.iconst (-1), 1) := by decide +kernel
theorem dX6_block_35 : decode cX6_block 35 = .ok (.ireturn, 1) := by decide +kernel
theorem dX6_block_36 : decode cX6_block 36 = .ok (.iload_n 1, 1) := by decide +kernel
theorem dX6_block_37 : decode cX6_block 37 = .ok (.iconst 1, 1) := by decide +kernel
theorem dX6_block_38 : decode cX6_block 38 = .ok (.iadd, 1) := by decide +kernel
theorem dX6_block_39 : decode cX6_block 39 = .ok (.aload_n 0, 1) := by decide +kernel
theorem dX6_block_40 : decode cX6_block 40 = .ok (.invokevirtual 121, 3) := by decide +kernel
theorem dX6_block_43 : decode cX6_block 43 = .ok (.if_icmp .ge 8, 3) := by decide +kernel
theorem dX6_block_46 : decode cX6_block 46 = .ok (.bipush 16, 2) := by decide +kernel
theorem dX6_block_48 : decode cX6_block 48 = .ok (.goto 16, 3) := by decide +kernel
theorem dX6_block_51 : decode cX6_block 51 = .ok (.aload_n 0, 1) := by decide +kernel
theorem dX6_block_52 : decode cX6_block 52 = .ok (.getfield 7, 3) := by decide +kernel
theorem dX6_block_55 : decode cX6_block 55 = .ok (.sipush 646, 3) := by decide +kernel
theorem dX6_block_58 : decode cX6_block 58 = .ok (.iaload, 1) := by decide +kernel
theorem dX6_block_59 : decode cX6_block 59 = .ok (.bipush 16, 2) := by decide +kernel
theorem dX6_block_61 : decode cX6_block 61 = .ok (.iload_n 1, 1) := by decide +kernel
theorem dX6_block_62 : decode cX6_block 62 = .ok (.imul, 1) := by decide +kernel
theorem dX6_block_63 : decode cX6_block 63 = .ok (.isub, 1) := by decide +kernel
theorem dX6_block_64 : decode cX6_block 64 = .ok (.istore_n 2, 1) := by decide +kernel
theorem dX6_block_65 : decode cX6_block 65 = .ok (.aload_n 0, 1) := by decide +kernel
theorem dX6_block_66 : decode cX6_block 66 = .ok (.getfield 74, 3) := by decide +kernel
theorem dX6_block_69 : decode cX6_block 69 = .ok (.iload_n 2, 1) := by decide +kernel
theorem dX6_block_70 : decode cX6_block 70 = .ok (.if_icmp .eq 5, 3) := by decide +kernel
theorem dX6_block_73 : decode cX6_block 73 = .ok (.iconst (-1), 1) := by decide +kernel
theorem dX6_block_74 : decode cX6_block 74 = .ok (.ireturn, 1) := by decide +kernel
theorem dX6_block_75 : decode cX6_block 75 = .ok (.aload_n 0, 1) := by decide +kernel
theorem dX6_block_76 : decode cX6_block 76 = .ok (.iconst 0, 1) := by decide +kernel
theorem dX6_block_77 : decode cX6_block 77 = .ok (.putfield 74, 3) := by decide +kernel
theorem dX6_block_80 : decode cX6_block 80 = .ok (.aload_n 0, 1) := by decide +kernel
theorem dX6_block_81 : decode cX6_block 81 = .ok (.getfield 7, 3) := by decide +kernel
theorem dX6_block_84 : decode cX6_block 84 = .ok (.sipush 672, 3) := by decide +kernel
theorem dX6_block_87 : decode cX6_block 87 = .ok (.iload_n 1, 1) := by decide +kernel
theorem dX6_block_88 : decode cX6_block 88 = .ok (.iadd, 1) := by decide +kernel
theorem dX6_block_89 : decode cX6_block 89 = .ok (.iaload, 1) := by decide +kernel
theorem dX6_block_90 : decode cX6_block 90 = .ok (.ifCond .ne 5, 3) := by decide +kernel
theorem dX6_block_93 : decode cX6_block 93 = .ok (.iconst 0, 1) := by decide +kernel
theorem dX6_block_94 : decode cX6_block 94 = .ok (.ireturn, 1) := by decide +kernel
theorem dX6_block_95 : decode cX6_block 95 = .ok (.iconst 0, 1) := by decide +kernel
theorem dX6_block_96 : decode cX6_block 96 = .ok (.istore_n 3, 1) := by decide +kernel
theorem dX6_block_97 : decode cX6_block 97 = .ok (.iload_n 3, 1) := by decide +kernel
theorem dX6_block_98 : decode cX6_block 98 = .ok (.iload_n 2, 1) := by decide +kernel
theorem dX6_block_99 : decode cX6_block 99 = .ok (.if_icmp .ge 29, 3) := by decide +kernel
theorem dX6_block_102 : decode cX6_block 102 = .ok (.aload_n 0, 1) := by decide +kernel
theorem dX6_block_103 : decode cX6_block 103 = .ok (.sipush 448, 3) := by decide +kernel
theorem dX6_block_106 : decode cX6_block 106 = .ok (.bipush 16, 2) := by decide +kernel
theorem dX6_block_108 : decode cX6_block 108 = .ok (.iload_n 1, 1) := by decide +kernel
theorem dX6_block_109 : decode cX6_block 109 = .ok (.imul, 1) := by decide +kernel
theorem dX6_block_110 : decode cX6_block 110 = .ok (.iadd, 1) := by decide +kernel
theorem dX6_block_111 : decode cX6_block 111 = .ok (.iload_n 3, 1) := by decide +kernel
theorem dX6_block_112 : decode cX6_block 112 = .ok (.iadd, 1) := by decide +kernel
theorem dX6_block_113 : decode cX6_block 113 = .ok (.aload_n 0, 1) := by decide +kernel
theorem dX6_block_114 : decode cX6_block 114 = .ok (.getfield 16, 3) := by decide +kernel
theorem dX6_block_117 : decode cX6_block 117 = .ok (.iload_n 3, 1) := by decide +kernel
theorem dX6_block_118 : decode cX6_block 118 = .ok (.iaload, 1) := by decide +kernel
theorem dX6_block_119 : decode cX6_block 119 = .ok (.invokevirtual 83, 3) := by decide +kernel
theorem dX6_block_122 : decode cX6_block 122 = .ok (.iinc 3 1, 3) := by decide +kernel
theorem dX6_block_125 : decode cX6_block 125 = .ok (.goto (-28), 3) := by decide +kernel
theorem dX6_block_128 : decode cX6_block 128 = .ok (.aload_n 0, 1) := by decide +kernel
theorem dX6_block_129 : decode cX6_block 129 = .ok (.sipush 672, 3) := by decide +kernel
theorem dX6_block_132 : decode cX6_block 132 = .ok (.iload_n 1, 1) := by decide +kernel
theorem dX6_block_133 : decode cX6_block 133 = .ok (.iadd, 1) := by decide +kernel
theorem dX6_block_134 : decode cX6_block 134 = .ok (.iconst 0, 1) := by decide +kernel
theorem dX6_block_135 : decode cX6_block 135 = .ok (.invokevirtual 83, 3) := by decide +kernel
theorem dX6_block_138 : decode cX6_block 138 = .ok (.aload_n 0, 1) := by decide +kernel
theorem dX6_block_139 : decode cX6_block 139 = .ok (.getfield 19, 3) := by decide +kernel
theorem dX6_block_142 : decode cX6_block 142 = .ok (.ifCond .eq 7, 3) := by decide +kernel
theorem dX6_block_145 : decode cX6_block 145 = .ok (.iconst 1, 1) := by decide +kernel
end
section
theorem dX6_block_146 : decode cX6_block 146 = .ok (.goto 5, 3) := by decide +kernel
theorem dX6_block_149 : decode cX6_block 149 = .ok (.bipush (-2), 2) := by decide +kernel
theorem dX6_block_151 : decode cX6_block 151 = .ok (.ireturn, 1) := by decide +kernel
theorem dX6_add_0 : decode cX6_add 0 = .ok (.aload_n 0, 1) := by decide +kernel
theorem dX6_add_1 : decode cX6_add 1 = .ok (.getfield 124, 3) := by decide +kernel
theorem dX6_add_4 : decode cX6_add 4 = .ok (.sipush 192, 3) := by decide +kernel
theorem dX6_add_7 : decode cX6_add 7 = .ok (.if_icmp .ge 13, 3) := by decide +kernel
theorem dX6_add_10 : decode cX6_add 10 = .ok (.aload_n 0, 1) := by decide +kernel
theorem dX6_add_11 : decode cX6_add 11 = .ok (.getfield 30, 3) := by decide +kernel
theorem dX6_add_14 : decode cX6_add 14 = .ok (.aload_n 0, 1) := by decide +kernel
theorem dX6_add_15 : decode cX6_add 15 = .ok (.getfield 124, 3) := by decide +kernel
theorem dX6_add_18 : decode cX6_add 18 = .ok (.iload_n 1, 1) := by decide +kernel
theorem dX6_add_19 : decode cX6_add 19 = .ok (.iastore, 1) := by decide +kernel
theorem dX6_add_20 : decode cX6_add 20 = .ok (.aload_n 0, 1) := by decide +kernel
theorem dX6_add_21 : decode cX6_add 21 = .ok (.dup, 1) := by decide +kernel
theorem dX6_add_22 : decode cX6_add 22 = .ok (.getfield 124, 3) := by decide +kernel
theorem dX6_add_25 : decode cX6_add 25 = .ok (.iconst 1, 1) := by decide +kernel
theorem dX6_add_26 : decode cX6_add 26 = .ok (.iadd, 1) := by decide +kernel
theorem dX6_add_27 : decode cX6_add 27 = .ok (.putfield 124, 3) := by decide +kernel
theorem dX6_add_30 : decode cX6_add 30 = .ok (.return_, 1) := by decide +kernel
set_option maxRecDepth 20000 in
theorem ggX6_patches_X6_add : GoodIn wsX6_patches wsX6_add := goodIn_r _ [7, 2, 8, 9, 10, 11, 12, 13, 14, 15, 16, 17, 18, 19, 20, 21] (by decide +kernel) (by decide +kernel)
set_option maxRecDepth 20000 in
theorem gX6_patches_X6_add : GoodIn wsX6_patches (wsV RX6 127 RX6 yX6_add wsX6_add) := goodIn_app (goodIn_of _ (by decide +kernel)) ggX6_patches_X6_add
theorem dX6_patches_0 : decode cX6_patches 0 = .ok (.aload_n 0, 1) := by decide +kernel
theorem dX6_patches_1 : decode cX6_patches 1 = .ok (.getfield 7, 3) := by decide +kernel
theorem dX6_patches_4 : decode cX6_patches 4 = .ok (.sipush 646, 3) := by decide +kernel
theorem dX6_patches_7 : decode cX6_patches 7 = .ok (.iaload, 1) := by decide +kernel
theorem dX6_patches_8 : decode cX6_patches 8 = .ok (.istore_n 3, 1) := by decide +kernel
theorem dX6_patches_9 : decode cX6_patches 9 = .ok (.iconst 0, 1) := by decide +kernel
theorem dX6_patches_10 : decode cX6_patches 10 = .ok (.istore 4, 2) := by decide +kernel
theorem dX6_patches_12 : decode cX6_patches 12 = .ok (.aload_n 0, 1) := by decide +kernel
theorem dX6_patches_13 : decode cX6_patches 13 = .ok (.iconst 0, 1) := by decide +kernel
theorem dX6_patches_14 : decode cX6_patches 14 = .ok (.putfield 124, 3) := by decide +kernel
theorem dX6_patches_17 : decode cX6_patches 17 = .ok (.iload 4, 2) := by decide +kernel
theorem dX6_patches_19 : decode cX6_patches 19 = .ok (.iload_n 3, 1) := by decide +kernel
theorem dX6_patches_20 : decode cX6_patches 20 = .ok (.if_icmp .ge 170, 3) := by decide +kernel
theorem dX6_patches_23 : decode cX6_patches 23 = .ok (.aload_n 0, 1) := by decide +kernel
theorem dX6_patches_24 : decode cX6_patches 24 = .ok (.getfield 7, 3) := by decide +kernel
theorem dX6_patches_27 : decode cX6_patches 27 = .ok (.sipush 448, 3) := by decide +kernel
theorem dX6_patches_30 : decode cX6_patches 30 = .ok (.iload 4, 2) := by decide +kernel
theorem dX6_patches_32 : decode cX6_patches 32 = .ok (.iadd, 1) := by decide +kernel
theorem dX6_patches_33 : decode cX6_patches 33 = .ok (.iaload, 1) := by decide +kernel
theorem dX6_patches_34 : decode cX6_patches 34 = .ok (.istore 5, 2) := by decide +kernel
theorem dX6_patches_36 : decode cX6_patches 36 = .ok (.iload 5, 2) := by decide +kernel
theorem dX6_patches_38 : decode cX6_patches 38 = .ok (.sipush 128, 3) := by decide +kernel
theorem dX6_patches_41 : decode cX6_patches 41 = .ok (.if_icmp .ge 66, 3) := by decide +kernel
theorem dX6_patches_44 : decode cX6_patches 44 = .ok (.iload 4, 2) := by decide +kernel
theorem dX6_patches_46 : decode cX6_patches 46 = .ok (.iconst 1, 1) := by decide +kernel
theorem dX6_patches_47 : decode cX6_patches 47 = .ok (.iadd, 1) := by decide +kernel
theorem dX6_patches_48 : decode cX6_patches 48 = .ok (.iload 5, 2) := by decide +kernel
theorem dX6_patches_50 : decode cX6_patches 50 = .ok (.iadd, 1) := by decide +kernel
theorem dX6_patches_51 : decode cX6_patches 51 = .ok (.iconst 1, 1) := by decide +kernel
theorem dX6_patches_52 : decode cX6_patches 52 = .ok (.iadd, 1) := by decide +kernel
theorem dX6_patches_53 : decode cX6_patches 53 = .ok (.iload_n 3, 1) := by decide +kernel
theorem dX6_patches_54 : decode cX6_patches 54 = .ok (.if_icmp .le 5, 3) := by decide +kernel
theorem dX6_patches_57 : decode cX6_patches 57 = .ok (.iconst 0, 1) := by decide +kernel
theorem dX6_patches_58 : decode cX6_patches 58 = .ok (.ireturn, 1) := by decide +kernel
theorem dX6_patches_59 : decode cX6_patches 59 = .ok (.iconst 0, 1) := by decide +kernel
theorem dX6_patches_60 : decode cX6_patches 60 = .ok (.istore 6, 2) := by decide +kernel
theorem dX6_patches_62 : decode cX6_patches 62 = .ok (.iload 6, 2) := by decide +kernel
theorem dX6_patches_64 : decode cX6_patches 64 = .ok (.iload 5, 2) := by decide +kernel
theorem dX6_patches_66 : decode cX6_patches 66 = .ok (.if_icmp .gt 29, 3) := by decide +kernel
theorem dX6_patches_69 : decode cX6_patches 69 = .ok (.aload_n 0, 1) := by decide +kernel
theorem dX6_patches_70 : decode cX6_patches 70 = .ok (.aload_n 0, 1) := by decide +kernel
theorem dX6_patches_71 : decode cX6_patches 71 = .ok (.getfield 7, 3) := by decide +kernel
theorem dX6_patches_74 : decode cX6_patches 74 = .ok (.sipush 448, 3) := by decide +kernel
theorem dX6_patches_77 : decode cX6_patches 77 = .ok (.iload 4, 2) := by decide +kernel
theorem dX6_patches_79 : decode cX6_patches 79 = .ok (.iadd, 1) := by decide +kernel
theorem dX6_patches_80 : decode cX6_patches 80 = .ok (.iconst 1, 1) := by decide +kernel
theorem dX6_patches_81 : decode cX6_patches 81 = .ok (.iadd, 1) := by decide +kernel
theorem dX6_patches_82 : decode cX6_patches 82 = .ok (.iload 6, 2) := by decide +kernel
theorem dX6_patches_84 : decode cX6_patches 84 = .ok (.iadd, 1) := by decide +kernel
theorem dX6_patches_85 : decode cX6_patches 85 = .ok (.iaload, 1) := by decide +kernel
theorem dX6_patches_86 : decode cX6_patches 86 = .ok (.invokevirtual 127, 3) := by decide +kernel
theorem dX6_patches_89 : decode cX6_patches 89 = .ok (.iinc 6 1, 3) := by decide +kernel
theorem dX6_patches_92 : decode cX6_patches 92 = .ok (.goto (-30), 3) := by decide +kernel
theorem dX6_patches_95 : decode cX6_patches 95 = .ok (.iload 4, 2) := by decide +kernel
theorem dX6_patches_97 : decode cX6_patches 97 = .ok (.iload 5, 2) := by decide +kernel
theorem dX6_patches_99 : decode cX6_patches 99 = .ok (.iadd, 1) := by decide +kernel
theorem dX6_patches_100 : decode cX6_patches 100 = .ok (.iconst 2, 1) := by decide +kernel
theorem dX6_patches_101 : decode cX6_patches 101 = .ok (.iadd, 1) := by decide +kernel
theorem dX6_patches_102 : decode cX6_patches 102 = .ok (.istore 4, 2) := by decide +kernel
theorem dX6_patches_104 : decode cX6_patches 104 = .ok (.goto 83, 3) := by decide +kernel
theorem dX6_patches_107 : decode cX6_patches 107 = .ok (.iload 4, 2) := by decide +kernel
theorem dX6_patches_109 : decode cX6_patches 109 = .ok (.iconst 2, 1) := by decide +kernel
theorem dX6_patches_110 : decode cX6_patches 110 = .ok (.iadd, 1) := by decide +kernel
theorem dX6_patches_111 : decode cX6_patches 111 = .ok (.iload_n 3, 1) := by decide +kernel
theorem dX6_patches_112 : decode cX6_patches 112 = .ok (.if_icmp .le 5, 3) := by decide +kernel
theorem dX6_patches_115 : decode cX6_patches 115 = .ok (.iconst 0, 1) := by decide +kernel
theorem dX6_patches_116 : decode cX6_patches 116 = .ok (.ireturn, 1) := by decide +kernel
theorem dX6_patches_117 : decode cX6_patches 117 = .ok (.aload_n 0, 1) := by decide +kernel
theorem dX6_patches_118 : decode cX6_patches 118 = .ok (.getfield 7, 3) := by decide +kernel
theorem dX6_patches_121 : decode cX6_patches 121 = .ok (.sipush 448, 3) := by decide +kernel
theorem dX6_patches_124 : decode cX6_patches 124 = .ok (.iload 4, 2) := by decide +kernel
theorem dX6_patches_126 : decode cX6_patches 126 = .ok (.iadd, 1) := by decide +kernel
theorem dX6_patches_127 : decode cX6_patches 127 = .ok (.iconst 1, 1) := by decide +kernel
theorem dX6_patches_128 : decode cX6_patches 128 = .ok (.iadd, 1) := by decide +kernel
theorem dX6_patches_129 : decode cX6_patches 129 = .ok (.iaload, 1) := by decide +kernel
theorem dX6_patches_130 : decode cX6_patches 130 = .ok (.istore 6, 2) := by decide +kernel
theorem dX6_patches_132 : decode cX6_patches 132 = .ok (.iload 6, 2) := by decide +kernel
theorem dX6_patches_134 : decode cX6_patches 134 = .ok (.iload 5, 2) := by decide +kernel
theorem dX6_patches_136 : decode cX6_patches 136 = .ok (.iadd, 1) := by decide +kernel
theorem dX6_patches_137 : decode cX6_patches 137 = .ok (.bipush 127, 2) := by decide +kernel
theorem dX6_patches_139 : decode cX6_patches 139 = .ok (.isub, 1) := by decide +kernel
theorem dX6_patches_140 : decode cX6_patches 140 = .ok (.iload_n 2, 1) := by decide +kernel
theorem dX6_patches_141 : decode cX6_patches 141 = .ok (.if_icmp .le 5, 3) := by decide +kernel
theorem dX6_patches_144 : decode cX6_patches 144 = .ok (.iconst 0, 1) := by decide +kernel
theorem dX6_patches_145 : decode cX6_patches 145 = .ok (.ireturn, 1) := by decide +kernel
theorem dX6_patches_146 : decode cX6_patches 146 = .ok (.iconst 0, 1) := by decide +kernel
theorem dX6_patches_147 : decode cX6_patches 147 = .ok (.istore 7, 2) := by decide +kernel
theorem dX6_patches_149 : decode cX6_patches 149 = .ok (.iload 7, 2) := by decide +kernel
theorem dX6_patches_151 : decode cX6_patches 151 = .ok (.iload 5, 2) := by decide +kernel
theorem dX6_patches_153 : decode cX6_patches 153 = .ok (.bipush 127, 2) := by decide +kernel
theorem dX6_patches_155 : decode cX6_patches 155 = .ok (.isub, 1) := by decide +kernel
theorem dX6_patches_156 : decode cX6_patches 156 = .ok (.if_icmp .ge 25, 3) := by decide +kernel
theorem dX6_patches_159 : decode cX6_patches 159 = .ok (.aload_n 0, 1) := by decide +kernel
theorem dX6_patches_160 : decode cX6_patches 160 = .ok (.aload_n 0, 1) := by decide +kernel
theorem dX6_patches_161 : decode cX6_patches 161 = .ok (.getfield 7, 3) := by decide +kernel
theorem dX6_patches_164 : decode cX6_patches 164 = .ok (.iload_n 1, 1) := by decide +kernel
theorem dX6_patches_165 : decode cX6_patches 165 = .ok (.iload 6, 2) := by decide +kernel
theorem dX6_patches_167 : decode cX6_patches 167 = .ok (.iadd, 1) := by decide +kernel
theorem dX6_patches_168 : decode cX6_patches 168 = .ok (.iload 7, 2) := by decide +kernel
theorem dX6_patches_170 : decode cX6_patches 170 = .ok (.iadd, 1) := by decide +kernel
theorem dX6_patches_171 : decode cX6_patches 171 = .ok (.iaload, 1) := by decide +kernel
theorem dX6_patches_172 : decode cX6_patches 172 = .ok (.invokevirtual 127, 3) := by decide +kernel
theorem dX6_patches_175 : decode cX6_patches 175 = .ok (.iinc 7 1, 3) := by decide +kernel
theorem dX6_patches_178 : decode cX6_patches 178 = .ok (.goto (-29), 3) := by decide +kernel
theorem dX6_patches_181 : decode cX6_patches 181 = .ok (.iload 4, 2) := by decide +kernel
theorem dX6_patches_183 : decode cX6_patches 183 = .ok (.iconst 2, 1) := by decide +kernel
theorem dX6_patches_184 : decode cX6_patches 184 = .ok (.iadd, 1) := by decide +kernel
theorem dX6_patches_185 : decode cX6_patches 185 = .ok (.istore 4, 2) := by decide +kernel
theorem dX6_patches_187 : decode cX6_patches 187 = .ok (.goto (-170), 3) := by decide +kernel
theorem dX6_patches_190 : decode cX6_patches 190 = .ok (.aload_n 0, 1) := by decide +kernel
theorem dX6_patches_191 : decode cX6_patches 191 = .ok (.getfield 124, 3) := by decide +kernel
theorem dX6_patches_194 : decode cX6_patches 194 = .ok (.aload_n 0, 1) := by decide +kernel
theorem dX6_patches_195 : decode cX6_patches 195 = .ok (.getfield 7, 3) := by decide +kernel
theorem dX6_patches_198 : decode cX6_patches 198 = .ok (.sipush 651, 3) := by decide +kernel
theorem dX6_patches_201 : decode cX6_patches 201 = .ok (.iaload, 1) := by decide +kernel
theorem dX6_patches_202 : decode cX6_patches 202 = .ok (.if_icmp .ne 7, 3) := by decide +kernel
theorem dX6_patches_205 : decode cX6_patches 205 = .ok (.iconst 1, 1) := by decide +kernel
theorem dX6_patches_206 : decode cX6_patches 206 = .ok (.goto 4, 3) := by decide +kernel
theorem dX6_patches_209 : decode cX6_patches 209 = .ok (.iconst 0, 1) := by decide +kernel
theorem dX6_patches_210 : decode cX6_patches 210 = .ok (.ireturn, 1) := by decide +kernel
set_option maxRecDepth 20000 in
theorem ggX6_install_X6_isRight : GoodIn wsX6_install wsX6_isRight := goodIn_r _ [11, 12, 13, 14, 10, 15, 16, 17, 18, 19, 20, 3, 21, 22, 23, 24, 25, 26, 27, 28, 29, 30, 31, 32, 33, 34, 35, 36, 37, 101, 102, 103, 104, 105, 106, 107, 108, 109, 110, 111, 112, 113] (by decide +kernel) (by decide +kernel)
set_option maxRecDepth 20000 in
theorem gX6_install_X6_isRight : GoodIn wsX6_install (wsV RX6 118 RX6 yX6_isRight wsX6_isRight) := goodIn_app (goodIn_of _ (by decide +kernel)) ggX6_install_X6_isRight
set_option maxRecDepth 20000 in
theorem ggX6_install_X6_isOld : GoodIn wsX6_install wsX6_isOld := goodIn_r _ [41, 4, 16, 17, 18, 10, 19, 20, 3, 42, 43, 44, 45, 46, 47, 48, 49, 50, 51, 52, 53, 54, 55, 101, 102, 103, 104, 105, 106, 107, 108, 109, 110, 111, 112, 113] (by decide +kernel) (by decide +kernel)
set_option maxRecDepth 20000 in
theorem gX6_install_X6_isOld : GoodIn wsX6_install (wsV RX6 115 RX6 yX6_isOld wsX6_isOld) := goodIn_app (goodIn_of _ (by decide +kernel)) ggX6_install_X6_isOld
set_option maxRecDepth 20000 in
theorem ggX6_install_X6_blocks : GoodIn wsX6_install wsX6_blocks := goodIn_r _ [59, 3, 101, 102, 103, 104, 105, 106, 107, 108, 109, 110, 111, 112, 113] (by decide +kernel) (by decide +kernel)
set_option maxRecDepth 20000 in
theorem gX6_install_X6_blocks : GoodIn wsX6_install (wsV RX6 121 RX6 yX6_blocks wsX6_blocks) := goodIn_app (goodIn_of _ (by decide +kernel)) ggX6_install_X6_blocks
set_option maxRecDepth 20000 in
theorem ggX6_install_X6_headerAt : GoodIn wsX6_install wsX6_headerAt := goodIn_r _ [55] (by decide +kernel) (by decide +kernel)
set_option maxRecDepth 20000 in
theorem gX6_install_X6_headerAt : GoodIn wsX6_install (va_wsS RX6 58 yX6_headerAt wsX6_headerAt) := goodIn_app (goodIn_of _ (by decide +kernel)) ggX6_install_X6_headerAt
set_option maxRecDepth 20000 in
theorem ggX6_install_X6_four : GoodIn wsX6_install wsX6_four := goodIn_r _ [63, 3, 101, 102, 103, 104, 105, 106, 107, 108, 109, 110, 111, 112, 113] (by decide +kernel) (by decide +kernel)
set_option maxRecDepth 20000 in
theorem gX6_install_X6_four : GoodIn wsX6_install (wsV RX6 67 RX6 yX6_four wsX6_four) := goodIn_app (goodIn_of _ (by decide +kernel)) ggX6_install_X6_four
set_option maxRecDepth 20000 in
theorem ggX6_install_X6_digestOf : GoodIn wsX6_install wsX6_digestOf := goodIn_r _ [67, 3, 30, 31, 10, 32, 33, 101, 102, 103, 104, 105, 106, 107, 108, 109, 110, 111, 112, 113] (by decide +kernel) (by decide +kernel)
set_option maxRecDepth 20000 in
theorem gX6_install_X6_digestOf : GoodIn wsX6_install (wsV RX6 64 RX6 yX6_digestOf wsX6_digestOf) := goodIn_app (goodIn_of _ (by decide +kernel)) ggX6_install_X6_digestOf
set_option maxRecDepth 20000 in
theorem ggX6_install_X6_imageAt : GoodIn wsX6_install wsX6_imageAt := goodIn_r _ [70] (by decide +kernel) (by decide +kernel)
set_option maxRecDepth 20000 in
theorem gX6_install_X6_imageAt : GoodIn wsX6_install (va_wsS RX6 61 yX6_imageAt wsX6_imageAt) := goodIn_app (goodIn_of _ (by decide +kernel)) ggX6_install_X6_imageAt
set_option maxRecDepth 20000 in
theorem ggX6_install_X6_patches : GoodIn wsX6_install wsX6_patches := goodIn_r _ [74, 3, 5, 75, 76, 77, 10, 78, 6, 101, 102, 103, 104, 105, 106, 107, 108, 109, 110, 111, 112, 113] (by decide +kernel) (by decide +kernel)
set_option maxRecDepth 20000 in
theorem gX6_install_X6_patches : GoodIn wsX6_install (wsV RX6 130 RX6 yX6_patches wsX6_patches) := goodIn_app (goodIn_of _ (by decide +kernel)) ggX6_install_X6_patches
set_option maxRecDepth 20000 in
theorem ggX6_install_X6_digested : GoodIn wsX6_install wsX6_digested := goodIn_r _ [32, 33] (by decide +kernel) (by decide +kernel)
set_option maxRecDepth 20000 in
theorem gX6_install_X6_digested : GoodIn wsX6_install (va_wsS RX6 50 yX6_digested wsX6_digested) := goodIn_app (goodIn_of _ (by decide +kernel)) ggX6_install_X6_digested
set_option maxRecDepth 20000 in
theorem ggX6_install_X6_erase : GoodIn wsX6_install wsX6_erase := goodIn_r _ [82, 2, 83, 3, 84, 85, 86, 10, 87, 88, 89, 4, 101, 102, 103, 104, 105, 106, 107, 108, 109, 110, 111, 112, 113] (by decide +kernel) (by decide +kernel)
set_option maxRecDepth 20000 in
theorem gX6_install_X6_erase : GoodIn wsX6_install (wsV RX6 79 RX6 yX6_erase wsX6_erase) := goodIn_app (goodIn_of _ (by decide +kernel)) ggX6_install_X6_erase
set_option maxRecDepth 20000 in
theorem ggX6_install_X6_program : GoodIn wsX6_install wsX6_program := goodIn_r _ [93, 2, 3, 83, 84, 85, 86, 10, 87, 88, 89, 4, 101, 102, 103, 104, 105, 106, 107, 108, 109, 110, 111, 112, 113] (by decide +kernel) (by decide +kernel)
set_option maxRecDepth 20000 in
theorem gX6_install_X6_program : GoodIn wsX6_install (wsV RX6 83 RX6 yX6_program wsX6_program) := goodIn_app (goodIn_of _ (by decide +kernel)) ggX6_install_X6_program
set_option maxRecDepth 20000 in
theorem ggX6_install_X6_writeHeader : GoodIn wsX6_install wsX6_writeHeader := goodIn_r _ [97, 53, 54, 10, 55, 90, 91, 92, 93, 2, 3, 83, 84, 85, 86, 87, 88, 89, 4, 98, 99, 100, 101, 102, 103, 104, 105, 106, 107, 108, 109, 110, 111, 112, 113] (by decide +kernel) (by decide +kernel)
set_option maxRecDepth 20000 in
theorem gX6_install_X6_writeHeader : GoodIn wsX6_install (wsV RX6 87 RX6 yX6_writeHeader wsX6_writeHeader) := goodIn_app (goodIn_of _ (by decide +kernel)) ggX6_install_X6_writeHeader
theorem dX6_install_0 : decode cX6_install 0 = .ok (.aload_n 0, 1) := by decide +kernel
theorem dX6_install_1 : decode cX6_install 1 = .ok (.iconst 0, 1) := by decide +kernel
theorem dX6_install_2 : decode cX6_install 2 = .ok (.putfield 36, 3) := by decide +kernel
theorem dX6_install_5 : decode cX6_install 5 = .ok (.aload_n 0, 1) := by decide +kernel
theorem dX6_install_6 : decode cX6_install 6 = .ok (.getfield 19, 3) := by decide +kernel
theorem dX6_install_9 : decode cX6_install 9 = .ok (.ifCond .ne 6, 3) := by decide +kernel
theorem dX6_install_12 : decode cX6_install 12 = .ok (.bipush (-2), 2) := by decide +kernel
theorem dX6_install_14 : decode cX6_install 14 = .ok (.ireturn, 1) := by decide +kernel
theorem dX6_install_15 : decode cX6_install 15 = .ok (.aload_n 0, 1) := by decide +kernel
theorem dX6_install_16 : decode cX6_install 16 = .ok (.invokevirtual 118, 3) := by decide +kernel
theorem dX6_install_19 : decode cX6_install 19 = .ok (.ifCond .ne 6, 3) := by decide +kernel
theorem dX6_install_22 : decode cX6_install 22 = .ok (.bipush (-7), 2) := by decide +kernel
theorem dX6_install_24 : decode cX6_install 24 = .ok (.ireturn, 1) := by decide +kernel
theorem dX6_install_25 : decode cX6_install 25 = .ok (.aload_n 0, 1) := by decide +kernel
theorem dX6_install_26 : decode cX6_install 26 = .ok (.iconst 0, 1) := by decide +kernel
theorem dX6_install_27 : decode cX6_install 27 = .ok (.invokevirtual 115, 3) := by decide +kernel
theorem dX6_install_30 : decode cX6_install 30 = .ok (.ifCond .eq 6, 3) := by decide +kernel
theorem dX6_install_33 : decode cX6_install 33 = .ok (.bipush (-3), 2) := by decide +kernel
theorem dX6_install_35 : decode cX6_install 35 = .ok (.ireturn, 1) := by decide +kernel
theorem dX6_install_36 : decode cX6_install 36 = .ok (.iconst 0, 1) := by decide +kernel
theorem dX6_install_37 : decode cX6_install 37 = .ok (.istore_n 1, 1) := by decide +kernel
theorem dX6_install_38 : decode cX6_install 38 = .ok (.iload_n 1, 1) := by decide +kernel
theorem dX6_install_39 : decode cX6_install 39 = .ok (.aload_n 0, 1) := by decide +kernel
theorem dX6_install_40 : decode cX6_install 40 = .ok (.invokevirtual 121, 3) := by decide +kernel
theorem dX6_install_43 : decode cX6_install 43 = .ok (.if_icmp .ge 25, 3) := by decide +kernel
theorem dX6_install_46 : decode cX6_install 46 = .ok (.aload_n 0, 1) := by decide +kernel
theorem dX6_install_47 : decode cX6_install 47 = .ok (.getfield 7, 3) := by decide +kernel
theorem dX6_install_50 : decode cX6_install 50 = .ok (.sipush 672, 3) := by decide +kernel
theorem dX6_install_53 : decode cX6_install 53 = .ok (.iload_n 1, 1) := by decide +kernel
theorem dX6_install_54 : decode cX6_install 54 = .ok (.iadd, 1) := by decide +kernel
theorem dX6_install_55 : decode cX6_install 55 = .ok (.iaload, 1) := by decide +kernel
theorem dX6_install_56 : decode cX6_install 56 = .ok (.ifCond .eq 6, 3) := by decide +kernel
theorem dX6_install_59 : decode cX6_install 59 = .ok (.bipush (-5), 2) := by decide +kernel
theorem dX6_install_61 : decode cX6_install 61 = .ok (.ireturn, 1) := by decide +kernel
theorem dX6_install_62 : decode cX6_install 62 = .ok (.iinc 1 1, 3) := by decide +kernel
theorem dX6_install_65 : decode cX6_install 65 = .ok (.goto (-27), 3) := by decide +kernel
theorem dX6_install_68 : decode cX6_install 68 = .ok (.aload_n 0, 1) := by decide +kernel
theorem dX6_install_69 : decode cX6_install 69 = .ok (.getfield 23, 3) := by decide +kernel
theorem dX6_install_72 : decode cX6_install 72 = .ok (.invokestatic 58, 3) := by decide +kernel
theorem dX6_install_75 : decode cX6_install 75 = .ok (.istore_n 1, 1) := by decide +kernel
theorem dX6_install_76 : decode cX6_install 76 = .ok (.aload_n 0, 1) := by decide +kernel
theorem dX6_install_77 : decode cX6_install 77 = .ok (.sipush 642, 3) := by decide +kernel
theorem dX6_install_80 : decode cX6_install 80 = .ok (.invokevirtual 67, 3) := by decide +kernel
theorem dX6_install_83 : decode cX6_install 83 = .ok (.ifCond .eq 7, 3) := by decide +kernel
theorem dX6_install_86 : decode cX6_install 86 = .ok (.iconst 1, 1) := by decide +kernel
theorem dX6_install_87 : decode cX6_install 87 = .ok (.goto 4, 3) := by decide +kernel
theorem dX6_install_90 : decode cX6_install 90 = .ok (.iconst 0, 1) := by decide +kernel
theorem dX6_install_91 : decode cX6_install 91 = .ok (.istore_n 2, 1) := by decide +kernel
theorem dX6_install_92 : decode cX6_install 92 = .ok (.aload_n 0, 1) := by decide +kernel
theorem dX6_install_93 : decode cX6_install 93 = .ok (.sipush 448, 3) := by decide +kernel
theorem dX6_install_96 : decode cX6_install 96 = .ok (.aload_n 0, 1) := by decide +kernel
theorem dX6_install_97 : decode cX6_install 97 = .ok (.getfield 7, 3) := by decide +kernel
theorem dX6_install_100 : decode cX6_install 100 = .ok (.sipush 646, 3) := by decide +kernel
theorem dX6_install_103 : decode cX6_install 103 = .ok (.iaload, 1) := by decide +kernel
theorem dX6_install_104 : decode cX6_install 104 = .ok (.invokevirtual 64, 3) := by decide +kernel
theorem dX6_install_107 : decode cX6_install 107 = .ok (.aload_n 0, 1) := by decide +kernel
theorem dX6_install_108 : decode cX6_install 108 = .ok (.sipush 647, 3) := by decide +kernel
theorem dX6_install_111 : decode cX6_install 111 = .ok (.invokevirtual 67, 3) := by decide +kernel
theorem dX6_install_114 : decode cX6_install 114 = .ok (.if_icmp .ne 28, 3) := by decide +kernel
theorem dX6_install_117 : decode cX6_install 117 = .ok (.iload_n 2, 1) := by decide +kernel
theorem dX6_install_118 : decode cX6_install 118 = .ok (.ifCond .eq 20, 3) := by decide +kernel
theorem dX6_install_121 : decode cX6_install 121 = .ok (.aload_n 0, 1) := by decide +kernel
theorem dX6_install_122 : decode cX6_install 122 = .ok (.sipush 642, 3) := by decide +kernel
theorem dX6_install_125 : decode cX6_install 125 = .ok (.invokevirtual 67, 3) := by decide +kernel
theorem dX6_install_128 : decode cX6_install 128 = .ok (.aload_n 0, 1) := by decide +kernel
theorem dX6_install_129 : decode cX6_install 129 = .ok (.iload_n 1, 1) := by decide +kernel
theorem dX6_install_130 : decode cX6_install 130 = .ok (.iconst 2, 1) := by decide +kernel
theorem dX6_install_131 : decode cX6_install 131 = .ok (.iadd, 1) := by decide +kernel
theorem dX6_install_132 : decode cX6_install 132 = .ok (.invokevirtual 67, 3) := by decide +kernel
theorem dX6_install_135 : decode cX6_install 135 = .ok (.if_icmp .ne 7, 3) := by decide +kernel
theorem dX6_install_138 : decode cX6_install 138 = .ok (.iconst 1, 1) := by decide +kernel
theorem dX6_install_139 : decode cX6_install 139 = .ok (.goto 4, 3) := by decide +kernel
theorem dX6_install_142 : decode cX6_install 142 = .ok (.iconst 0, 1) := by decide +kernel
theorem dX6_install_143 : decode cX6_install 143 = .ok (.istore_n 3, 1) := by decide +kernel
theorem dX6_install_144 : decode cX6_install 144 = .ok (.iload_n 3, 1) := by decide +kernel
theorem dX6_install_145 : decode cX6_install 145 = .ok (.ifCond .eq 35, 3) := by decide +kernel
theorem dX6_install_148 : decode cX6_install 148 = .ok (.aload_n 0, 1) := by decide +kernel
theorem dX6_install_149 : decode cX6_install 149 = .ok (.aload_n 0, 1) := by decide +kernel
theorem dX6_install_150 : decode cX6_install 150 = .ok (.getfield 23, 3) := by decide +kernel
theorem dX6_install_153 : decode cX6_install 153 = .ok (.invokestatic 61, 3) := by decide +kernel
theorem dX6_install_156 : decode cX6_install 156 = .ok (.iload_n 2, 1) := by decide +kernel
theorem dX6_install_157 : decode cX6_install 157 = .ok (.ifCond .eq 12, 3) := by decide +kernel
theorem dX6_install_160 : decode cX6_install 160 = .ok (.aload_n 0, 1) := by decide +kernel
theorem dX6_install_161 : decode cX6_install 161 = .ok (.getfield 7, 3) := by decide +kernel
theorem dX6_install_164 : decode cX6_install 164 = .ok (.iload_n 1, 1) := by decide +kernel
theorem dX6_install_165 : decode cX6_install 165 = .ok (.iaload, 1) := by decide +kernel
theorem dX6_install_166 : decode cX6_install 166 = .ok (.goto 4, 3) := by decide +kernel
theorem dX6_install_169 : decode cX6_install 169 = .ok (.iconst 0, 1) := by decide +kernel
theorem dX6_install_170 : decode cX6_install 170 = .ok (.invokevirtual 130, 3) := by decide +kernel
theorem dX6_install_173 : decode cX6_install 173 = .ok (.ifCond .eq 7, 3) := by decide +kernel
theorem dX6_install_176 : decode cX6_install 176 = .ok (.iconst 1, 1) := by decide +kernel
theorem dX6_install_177 : decode cX6_install 177 = .ok (.goto 4, 3) := by decide +kernel
theorem dX6_install_180 : decode cX6_install 180 = .ok (.iconst 0, 1) := by decide +kernel
theorem dX6_install_181 : decode cX6_install 181 = .ok (.istore_n 3, 1) := by decide +kernel
theorem dX6_install_182 : decode cX6_install 182 = .ok (.iconst 0, 1) := by decide +kernel
theorem dX6_install_183 : decode cX6_install 183 = .ok (.istore 4, 2) := by decide +kernel
theorem dX6_install_185 : decode cX6_install 185 = .ok (.iconst 0, 1) := by decide +kernel
theorem dX6_install_186 : decode cX6_install 186 = .ok (.istore 5, 2) := by decide +kernel
theorem dX6_install_188 : decode cX6_install 188 = .ok (.iload 5, 2) := by decide +kernel
theorem dX6_install_190 : decode cX6_install 190 = .ok (.aload_n 0, 1) := by decide +kernel
theorem dX6_install_191 : decode cX6_install 191 = .ok (.getfield 124, 3) := by decide +kernel
theorem dX6_install_194 : decode cX6_install 194 = .ok (.if_icmp .ge 27, 3) := by decide +kernel
theorem dX6_install_197 : decode cX6_install 197 = .ok (.iload_n 3, 1) := by decide +kernel
theorem dX6_install_198 : decode cX6_install 198 = .ok (.ifCond .eq 23, 3) := by decide +kernel
theorem dX6_install_201 : decode cX6_install 201 = .ok (.iload 4, 2) := by decide +kernel
theorem dX6_install_203 : decode cX6_install 203 = .ok (.aload_n 0, 1) := by decide +kernel
theorem dX6_install_204 : decode cX6_install 204 = .ok (.getfield 30, 3) := by decide +kernel
theorem dX6_install_207 : decode cX6_install 207 = .ok (.iload 5, 2) := by decide +kernel
theorem dX6_install_209 : decode cX6_install 209 = .ok (.iaload, 1) := by decide +kernel
theorem dX6_install_210 : decode cX6_install 210 = .ok (.invokestatic 50, 3) := by decide +kernel
theorem dX6_install_213 : decode cX6_install 213 = .ok (.istore 4, 2) := by decide +kernel
theorem dX6_install_215 : decode cX6_install 215 = .ok (.iinc 5 1, 3) := by decide +kernel
theorem dX6_install_218 : decode cX6_install 218 = .ok (.goto (-30), 3) := by decide +kernel
theorem dX6_install_221 : decode cX6_install 221 = .ok (.iload_n 3, 1) := by decide +kernel
theorem dX6_install_222 : decode cX6_install 222 = .ok (.ifCond .eq 15, 3) := by decide +kernel
theorem dX6_install_225 : decode cX6_install 225 = .ok (.iload 4, 2) := by decide +kernel
theorem dX6_install_227 : decode cX6_install 227 = .ok (.aload_n 0, 1) := by decide +kernel
theorem dX6_install_228 : decode cX6_install 228 = .ok (.sipush 652, 3) := by decide +kernel
theorem dX6_install_231 : decode cX6_install 231 = .ok (.invokevirtual 67, 3) := by decide +kernel
theorem dX6_install_234 : decode cX6_install 234 = .ok (.if_icmp .eq 6, 3) := by decide +kernel
theorem dX6_install_237 : decode cX6_install 237 = .ok (.bipush (-6), 2) := by decide +kernel
theorem dX6_install_239 : decode cX6_install 239 = .ok (.ireturn, 1) := by decide +kernel
theorem dX6_install_240 : decode cX6_install 240 = .ok (.iconst 1, 1) := by decide +kernel
theorem dX6_install_241 : decode cX6_install 241 = .ok (.aload_n 0, 1) := by decide +kernel
theorem dX6_install_242 : decode cX6_install 242 = .ok (.getfield 23, 3) := by decide +kernel
theorem dX6_install_245 : decode cX6_install 245 = .ok (.isub, 1) := by decide +kernel
theorem dX6_install_246 : decode cX6_install 246 = .ok (.istore 5, 2) := by decide +kernel
theorem dX6_install_248 : decode cX6_install 248 = .ok (.aload_n 0, 1) := by decide +kernel
theorem dX6_install_249 : decode cX6_install 249 = .ok (.getfield 7, 3) := by decide +kernel
theorem dX6_install_252 : decode cX6_install 252 = .ok (.sipush 641, 3) := by decide +kernel
theorem dX6_install_255 : decode cX6_install 255 = .ok (.iaload, 1) := by decide +kernel
theorem dX6_install_256 : decode cX6_install 256 = .ok (.istore 6, 2) := by decide +kernel
theorem dX6_install_258 : decode cX6_install 258 = .ok (.aload_n 0, 1) := by decide +kernel
theorem dX6_install_259 : decode cX6_install 259 = .ok (.bipush 7, 2) := by decide +kernel
theorem dX6_install_261 : decode cX6_install 261 = .ok (.iload 5, 2) := by decide +kernel
theorem dX6_install_263 : decode cX6_install 263 = .ok (.imul, 1) := by decide +kernel
theorem dX6_install_264 : decode cX6_install 264 = .ok (.bipush 6, 2) := by decide +kernel
theorem dX6_install_266 : decode cX6_install 266 = .ok (.iadd, 1) := by decide +kernel
theorem dX6_install_267 : decode cX6_install 267 = .ok (.invokevirtual 79, 3) := by decide +kernel
theorem dX6_install_270 : decode cX6_install 270 = .ok (.iconst 0, 1) := by decide +kernel
theorem dX6_install_271 : decode cX6_install 271 = .ok (.istore 7, 2) := by decide +kernel
theorem dX6_install_273 : decode cX6_install 273 = .ok (.iload 7, 2) := by decide +kernel
theorem dX6_install_275 : decode cX6_install 275 = .ok (.bipush 6, 2) := by decide +kernel
theorem dX6_install_277 : decode cX6_install 277 = .ok (.if_icmp .ge 21, 3) := by decide +kernel
theorem dX6_install_280 : decode cX6_install 280 = .ok (.aload_n 0, 1) := by decide +kernel
theorem dX6_install_281 : decode cX6_install 281 = .ok (.bipush 7, 2) := by decide +kernel
theorem dX6_install_283 : decode cX6_install 283 = .ok (.iload 5, 2) := by decide +kernel
theorem dX6_install_285 : decode cX6_install 285 = .ok (.imul, 1) := by decide +kernel
theorem dX6_install_286 : decode cX6_install 286 = .ok (.iload 7, 2) := by decide +kernel
theorem dX6_install_288 : decode cX6_install 288 = .ok (.iadd, 1) := by decide +kernel
theorem dX6_install_289 : decode cX6_install 289 = .ok (.invokevirtual 79, 3) := by decide +kernel
theorem dX6_install_292 : decode cX6_install 292 = .ok (.iinc 7 1, 3) := by decide +kernel
theorem dX6_install_295 : decode cX6_install 295 = .ok (.goto (-22), 3) := by decide +kernel
theorem dX6_install_298 : decode cX6_install 298 = .ok (.aload_n 0, 1) := by decide +kernel
theorem dX6_install_299 : decode cX6_install 299 = .ok (.getfield 124, 3) := by decide +kernel
theorem dX6_install_302 : decode cX6_install 302 = .ok (.istore 7, 2) := by decide +kernel
theorem dX6_install_304 : decode cX6_install 304 = .ok (.iconst 0, 1) := by decide +kernel
theorem dX6_install_305 : decode cX6_install 305 = .ok (.istore 8, 2) := by decide +kernel
theorem dX6_install_307 : decode cX6_install 307 = .ok (.iload 8, 2) := by decide +kernel
theorem dX6_install_309 : decode cX6_install 309 = .ok (.iload 7, 2) := by decide +kernel
theorem dX6_install_311 : decode cX6_install 311 = .ok (.if_icmp .ge 28, 3) := by decide +kernel
theorem dX6_install_314 : decode cX6_install 314 = .ok (.aload_n 0, 1) := by decide +kernel
theorem dX6_install_315 : decode cX6_install 315 = .ok (.iload 5, 2) := by decide +kernel
theorem dX6_install_317 : decode cX6_install 317 = .ok (.invokestatic 61, 3) := by decide +kernel
theorem dX6_install_320 : decode cX6_install 320 = .ok (.iload 8, 2) := by decide +kernel
theorem dX6_install_322 : decode cX6_install 322 = .ok (.iadd, 1) := by decide +kernel
theorem dX6_install_323 : decode cX6_install 323 = .ok (.aload_n 0, 1) := by decide +kernel
theorem dX6_install_324 : decode cX6_install 324 = .ok (.getfield 30, 3) := by decide +kernel
theorem dX6_install_327 : decode cX6_install 327 = .ok (.iload 8, 2) := by decide +kernel
theorem dX6_install_329 : decode cX6_install 329 = .ok (.iaload, 1) := by decide +kernel
theorem dX6_install_330 : decode cX6_install 330 = .ok (.invokevirtual 83, 3) := by decide +kernel
theorem dX6_install_333 : decode cX6_install 333 = .ok (.iinc 8 1, 3) := by decide +kernel
theorem dX6_install_336 : decode cX6_install 336 = .ok (.goto (-29), 3) := by decide +kernel
theorem dX6_install_339 : decode cX6_install 339 = .ok (.aload_n 0, 1) := by decide +kernel
theorem dX6_install_340 : decode cX6_install 340 = .ok (.iload 5, 2) := by decide +kernel
theorem dX6_install_342 : decode cX6_install 342 = .ok (.iload 7, 2) := by decide +kernel
theorem dX6_install_344 : decode cX6_install 344 = .ok (.iload 6, 2) := by decide +kernel
theorem dX6_install_346 : decode cX6_install 346 = .ok (.iload 4, 2) := by decide +kernel
theorem dX6_install_348 : decode cX6_install 348 = .ok (.invokevirtual 87, 3) := by decide +kernel
theorem dX6_install_351 : decode cX6_install 351 = .ok (.aload_n 0, 1) := by decide +kernel
theorem dX6_install_352 : decode cX6_install 352 = .ok (.iload 5, 2) := by decide +kernel
theorem dX6_install_354 : decode cX6_install 354 = .ok (.invokestatic 58, 3) := by decide +kernel
theorem dX6_install_357 : decode cX6_install 357 = .ok (.bipush 6, 2) := by decide +kernel
theorem dX6_install_359 : decode cX6_install 359 = .ok (.iadd, 1) := by decide +kernel
theorem dX6_install_360 : decode cX6_install 360 = .ok (.bipush 15, 2) := by decide +kernel
theorem dX6_install_362 : decode cX6_install 362 = .ok (.invokevirtual 83, 3) := by decide +kernel
theorem dX6_install_365 : decode cX6_install 365 = .ok (.aload_n 0, 1) := by decide +kernel
theorem dX6_install_366 : decode cX6_install 366 = .ok (.iload 5, 2) := by decide +kernel
theorem dX6_install_368 : decode cX6_install 368 = .ok (.invokestatic 58, 3) := by decide +kernel
theorem dX6_install_371 : decode cX6_install 371 = .ok (.bipush 8, 2) := by decide +kernel
theorem dX6_install_373 : decode cX6_install 373 = .ok (.iadd, 1) := by decide +kernel
theorem dX6_install_374 : decode cX6_install 374 = .ok (.iconst 0, 1) := by decide +kernel
theorem dX6_install_375 : decode cX6_install 375 = .ok (.invokevirtual 83, 3) := by decide +kernel
theorem dX6_install_378 : decode cX6_install 378 = .ok (.aload_n 0, 1) := by decide +kernel
theorem dX6_install_379 : decode cX6_install 379 = .ok (.bipush 20, 2) := by decide +kernel
theorem dX6_install_381 : decode cX6_install 381 = .ok (.invokevirtual 79, 3) := by decide +kernel
theorem dX6_install_384 : decode cX6_install 384 = .ok (.aload_n 0, 1) := by decide +kernel
theorem dX6_install_385 : decode cX6_install 385 = .ok (.getfield 19, 3) := by decide +kernel
theorem dX6_install_388 : decode cX6_install 388 = .ok (.ifCond .eq 7, 3) := by decide +kernel
theorem dX6_install_391 : decode cX6_install 391 = .ok (.iconst 1, 1) := by decide +kernel
theorem dX6_install_392 : decode cX6_install 392 = .ok (.goto 5, 3) := by decide +kernel
theorem dX6_install_395 : decode cX6_install 395 = .ok (.bipush (-2), 2) := by decide +kernel
theorem dX6_install_397 : decode cX6_install 397 = .ok (.ireturn, 1) := by decide +kernel
set_option maxRecDepth 20000 in
theorem ggX6_best_X6_isGood : GoodIn wsX6_best wsX6_isGood := goodIn_r _ [6, 1, 7, 8, 5, 9, 10, 11, 12, 13, 14, 15, 16, 17, 18, 19, 20, 21, 22, 23, 24, 25, 26, 27, 28, 29, 30, 31, 40, 41, 42, 43, 44, 45, 46, 47, 48, 49, 50, 51, 52] (by decide +kernel) (by decide +kernel)
set_option maxRecDepth 20000 in
theorem gX6_best_X6_isGood : GoodIn wsX6_best (wsV RX6 134 RX6 yX6_isGood wsX6_isGood) := goodIn_app (goodIn_of _ (by decide +kernel)) ggX6_best_X6_isGood
set_option maxRecDepth 20000 in
theorem ggX6_best_X6_isConfirmed : GoodIn wsX6_best wsX6_isConfirmed := goodIn_r _ [35, 1, 7, 8, 5, 9, 40, 41, 42, 43, 44, 45, 46, 47, 48, 49, 50, 51, 52] (by decide +kernel) (by decide +kernel)
set_option maxRecDepth 20000 in
theorem gX6_best_X6_isConfirmed : GoodIn wsX6_best (wsV RX6 138 RX6 yX6_isConfirmed wsX6_isConfirmed) := goodIn_app (goodIn_of _ (by decide +kernel)) ggX6_best_X6_isConfirmed
set_option maxRecDepth 20000 in
theorem ggX6_best_X6_headerAt : GoodIn wsX6_best wsX6_headerAt := goodIn_r _ [9] (by decide +kernel) (by decide +kernel)
set_option maxRecDepth 20000 in
theorem gX6_best_X6_headerAt : GoodIn wsX6_best (va_wsS RX6 58 yX6_headerAt wsX6_headerAt) := goodIn_app (goodIn_of _ (by decide +kernel)) ggX6_best_X6_headerAt
set_option maxRecDepth 20000 in
theorem ggX6_best_X6_sequenceOf : GoodIn wsX6_best wsX6_sequenceOf := goodIn_r _ [39, 1, 7, 8, 5, 9, 40, 41, 42, 43, 44, 45, 46, 47, 48, 49, 50, 51, 52] (by decide +kernel) (by decide +kernel)
set_option maxRecDepth 20000 in
theorem gX6_best_X6_sequenceOf : GoodIn wsX6_best (wsV RX6 112 RX6 yX6_sequenceOf wsX6_sequenceOf) := goodIn_app (goodIn_of _ (by decide +kernel)) ggX6_best_X6_sequenceOf
theorem dX6_best_0 : decode cX6_best 0 = .ok (.bipush (-7), 2) := by decide +kernel
theorem dX6_best_2 : decode cX6_best 2 = .ok (.istore_n 2, 1) := by decide +kernel
theorem dX6_best_3 : decode cX6_best 3 = .ok (.iconst 0, 1) := by decide +kernel
theorem dX6_best_4 : decode cX6_best 4 = .ok (.istore_n 3, 1) := by decide +kernel
theorem dX6_best_5 : decode cX6_best 5 = .ok (.iload_n 3, 1) := by decide +kernel
theorem dX6_best_6 : decode cX6_best 6 = .ok (.iconst 2, 1) := by decide +kernel
theorem dX6_best_7 : decode cX6_best 7 = .ok (.if_icmp .ge 82, 3) := by decide +kernel
theorem dX6_best_10 : decode cX6_best 10 = .ok (.aload_n 0, 1) := by decide +kernel
theorem dX6_best_11 : decode cX6_best 11 = .ok (.iload_n 3, 1) := by decide +kernel
theorem dX6_best_12 : decode cX6_best 12 = .ok (.invokevirtual 134, 3) := by decide +kernel
theorem dX6_best_15 : decode cX6_best 15 = .ok (.ifCond .eq 35, 3) := by decide +kernel
theorem dX6_best_18 : decode cX6_best 18 = .ok (.aload_n 0, 1) := by decide +kernel
theorem dX6_best_19 : decode cX6_best 19 = .ok (.iload_n 3, 1) := by decide +kernel
theorem dX6_best_20 : decode cX6_best 20 = .ok (.invokevirtual 138, 3) := by decide +kernel
theorem dX6_best_23 : decode cX6_best 23 = .ok (.iload_n 1, 1) := by decide +kernel
theorem dX6_best_24 : decode cX6_best 24 = .ok (.if_icmp .ne 26, 3) := by decide +kernel
theorem dX6_best_27 : decode cX6_best 27 = .ok (.iload_n 1, 1) := by decide +kernel
theorem dX6_best_28 : decode cX6_best 28 = .ok (.ifCond .ne 18, 3) := by decide +kernel
theorem dX6_best_31 : decode cX6_best 31 = .ok (.aload_n 0, 1) := by decide +kernel
theorem dX6_best_32 : decode cX6_best 32 = .ok (.getfield 7, 3) := by decide +kernel
theorem dX6_best_35 : decode cX6_best 35 = .ok (.iload_n 3, 1) := by decide +kernel
theorem dX6_best_36 : decode cX6_best 36 = .ok (.invokestatic 58, 3) := by decide +kernel
theorem dX6_best_39 : decode cX6_best 39 = .ok (.bipush 6, 2) := by decide +kernel
theorem dX6_best_41 : decode cX6_best 41 = .ok (.iadd, 1) := by decide +kernel
theorem dX6_best_42 : decode cX6_best 42 = .ok (.iaload, 1) := by decide +kernel
theorem dX6_best_43 : decode cX6_best 43 = .ok (.ifCond .eq 7, 3) := by decide +kernel
theorem dX6_best_46 : decode cX6_best 46 = .ok (.iconst 1, 1) := by decide +kernel
theorem dX6_best_47 : decode cX6_best 47 = .ok (.goto 4, 3) := by decide +kernel
theorem dX6_best_50 : decode cX6_best 50 = .ok (.iconst 0, 1) := by decide +kernel
theorem dX6_best_51 : decode cX6_best 51 = .ok (.istore 4, 2) := by decide +kernel
theorem dX6_best_53 : decode cX6_best 53 = .ok (.iload 4, 2) := by decide +kernel
theorem dX6_best_55 : decode cX6_best 55 = .ok (.ifCond .eq 26, 3) := by decide +kernel
theorem dX6_best_58 : decode cX6_best 58 = .ok (.iload_n 2, 1) := by decide +kernel
theorem dX6_best_59 : decode cX6_best 59 = .ok (.bipush (-7), 2) := by decide +kernel
theorem dX6_best_61 : decode cX6_best 61 = .ok (.if_icmp .eq 16, 3) := by decide +kernel
theorem dX6_best_64 : decode cX6_best 64 = .ok (.aload_n 0, 1) := by decide +kernel
theorem dX6_best_65 : decode cX6_best 65 = .ok (.iload_n 3, 1) := by decide +kernel
theorem dX6_best_66 : decode cX6_best 66 = .ok (.invokevirtual 112, 3) := by decide +kernel
theorem dX6_best_69 : decode cX6_best 69 = .ok (.aload_n 0, 1) := by decide +kernel
theorem dX6_best_70 : decode cX6_best 70 = .ok (.iload_n 2, 1) := by decide +kernel
theorem dX6_best_71 : decode cX6_best 71 = .ok (.invokevirtual 112, 3) := by decide +kernel
theorem dX6_best_74 : decode cX6_best 74 = .ok (.if_icmp .le 7, 3) := by decide +kernel
theorem dX6_best_77 : decode cX6_best 77 = .ok (.iload_n 3, 1) := by decide +kernel
theorem dX6_best_78 : decode cX6_best 78 = .ok (.goto 4, 3) := by decide +kernel
theorem dX6_best_81 : decode cX6_best 81 = .ok (.iload_n 2, 1) := by decide +kernel
theorem dX6_best_82 : decode cX6_best 82 = .ok (.istore_n 2, 1) := by decide +kernel
theorem dX6_best_83 : decode cX6_best 83 = .ok (.iinc 3 1, 3) := by decide +kernel
theorem dX6_best_86 : decode cX6_best 86 = .ok (.goto (-81), 3) := by decide +kernel
theorem dX6_best_89 : decode cX6_best 89 = .ok (.iload_n 2, 1) := by decide +kernel
theorem dX6_best_90 : decode cX6_best 90 = .ok (.ireturn, 1) := by decide +kernel
set_option maxRecDepth 20000 in
theorem ggX6_boot_X6_best : GoodIn wsX6_boot wsX6_best := goodIn_r _ [9, 4, 10, 11, 12, 8, 13, 14, 15, 16, 17, 18, 19, 20, 21, 22, 23, 24, 25, 26, 27, 28, 29, 30, 31, 32, 33, 34, 35, 36, 37, 38, 39, 40, 41, 42, 43, 44, 45, 46, 61, 62, 63, 64, 65, 66, 67, 68, 69, 70, 71, 72, 73] (by decide +kernel) (by decide +kernel)
set_option maxRecDepth 20000 in
theorem gX6_boot_X6_best : GoodIn wsX6_boot (wsV RX6 141 RX6 yX6_best wsX6_best) := goodIn_app (goodIn_of _ (by decide +kernel)) ggX6_boot_X6_best
set_option maxRecDepth 20000 in
theorem ggX6_boot_X6_headerAt : GoodIn wsX6_boot wsX6_headerAt := goodIn_r _ [16] (by decide +kernel) (by decide +kernel)
set_option maxRecDepth 20000 in
theorem gX6_boot_X6_headerAt : GoodIn wsX6_boot (va_wsS RX6 58 yX6_headerAt wsX6_headerAt) := goodIn_app (goodIn_of _ (by decide +kernel)) ggX6_boot_X6_headerAt
set_option maxRecDepth 20000 in
theorem ggX6_boot_X6_lessOne : GoodIn wsX6_boot wsX6_lessOne := goodIn_r _ [49] (by decide +kernel) (by decide +kernel)
set_option maxRecDepth 20000 in
theorem gX6_boot_X6_lessOne : GoodIn wsX6_boot (va_wsS RX6 145 yX6_lessOne wsX6_lessOne) := goodIn_app (goodIn_of _ (by decide +kernel)) ggX6_boot_X6_lessOne
set_option maxRecDepth 20000 in
theorem ggX6_boot_X6_program : GoodIn wsX6_boot wsX6_program := goodIn_r _ [53, 2, 4, 54, 55, 56, 57, 8, 58, 59, 60, 3, 61, 62, 63, 64, 65, 66, 67, 68, 69, 70, 71, 72, 73] (by decide +kernel) (by decide +kernel)
set_option maxRecDepth 20000 in
theorem gX6_boot_X6_program : GoodIn wsX6_boot (wsV RX6 83 RX6 yX6_program wsX6_program) := goodIn_app (goodIn_of _ (by decide +kernel)) ggX6_boot_X6_program
theorem dX6_boot_0 : decode cX6_boot 0 = .ok (.aload_n 0, 1) := by decide +kernel
theorem dX6_boot_1 : decode cX6_boot 1 = .ok (.iconst 0, 1) := by decide +kernel
theorem dX6_boot_2 : decode cX6_boot 2 = .ok (.putfield 36, 3) := by decide +kernel
theorem dX6_boot_5 : decode cX6_boot 5 = .ok (.aload_n 0, 1) := by decide +kernel
theorem dX6_boot_6 : decode cX6_boot 6 = .ok (.iconst 1, 1) := by decide +kernel
theorem dX6_boot_7 : decode cX6_boot 7 = .ok (.putfield 19, 3) := by decide +kernel
theorem dX6_boot_10 : decode cX6_boot 10 = .ok (.aload_n 0, 1) := by decide +kernel
theorem dX6_boot_11 : decode cX6_boot 11 = .ok (.bipush (-7), 2) := by decide +kernel
theorem dX6_boot_13 : decode cX6_boot 13 = .ok (.putfield 23, 3) := by decide +kernel
theorem dX6_boot_16 : decode cX6_boot 16 = .ok (.aload_n 0, 1) := by decide +kernel
theorem dX6_boot_17 : decode cX6_boot 17 = .ok (.iconst 0, 1) := by decide +kernel
theorem dX6_boot_18 : decode cX6_boot 18 = .ok (.invokevirtual 141, 3) := by decide +kernel
theorem dX6_boot_21 : decode cX6_boot 21 = .ok (.istore_n 1, 1) := by decide +kernel
theorem dX6_boot_22 : decode cX6_boot 22 = .ok (.iload_n 1, 1) := by decide +kernel
theorem dX6_boot_23 : decode cX6_boot 23 = .ok (.bipush (-7), 2) := by decide +kernel
theorem dX6_boot_25 : decode cX6_boot 25 = .ok (.if_icmp .eq 56, 3) := by decide +kernel
theorem dX6_boot_28 : decode cX6_boot 28 = .ok (.iload_n 1, 1) := by decide +kernel
theorem dX6_boot_29 : decode cX6_boot 29 = .ok (.invokestatic 58, 3) := by decide +kernel
theorem dX6_boot_32 : decode cX6_boot 32 = .ok (.bipush 6, 2) := by decide +kernel
theorem dX6_boot_34 : decode cX6_boot 34 = .ok (.iadd, 1) := by decide +kernel
theorem dX6_boot_35 : decode cX6_boot 35 = .ok (.istore_n 2, 1) := by decide +kernel
theorem dX6_boot_36 : decode cX6_boot 36 = .ok (.aload_n 0, 1) := by decide +kernel
theorem dX6_boot_37 : decode cX6_boot 37 = .ok (.iload_n 2, 1) := by decide +kernel
theorem dX6_boot_38 : decode cX6_boot 38 = .ok (.aload_n 0, 1) := by decide +kernel
theorem dX6_boot_39 : decode cX6_boot 39 = .ok (.getfield 7, 3) := by decide +kernel
theorem dX6_boot_42 : decode cX6_boot 42 = .ok (.iload_n 2, 1) := by decide +kernel
theorem dX6_boot_43 : decode cX6_boot 43 = .ok (.iaload, 1) := by decide +kernel
theorem dX6_boot_44 : decode cX6_boot 44 = .ok (.invokestatic 145, 3) := by decide +kernel
theorem dX6_boot_47 : decode cX6_boot 47 = .ok (.invokevirtual 83, 3) := by decide +kernel
theorem dX6_boot_50 : decode cX6_boot 50 = .ok (.aload_n 0, 1) := by decide +kernel
theorem dX6_boot_51 : decode cX6_boot 51 = .ok (.aload_n 0, 1) := by decide +kernel
theorem dX6_boot_52 : decode cX6_boot 52 = .ok (.getfield 19, 3) := by decide +kernel
theorem dX6_boot_55 : decode cX6_boot 55 = .ok (.ifCond .eq 7, 3) := by decide +kernel
theorem dX6_boot_58 : decode cX6_boot 58 = .ok (.iload_n 1, 1) := by decide +kernel
theorem dX6_boot_59 : decode cX6_boot 59 = .ok (.goto 5, 3) := by decide +kernel
theorem dX6_boot_62 : decode cX6_boot 62 = .ok (.bipush (-7), 2) := by decide +kernel
theorem dX6_boot_64 : decode cX6_boot 64 = .ok (.putfield 23, 3) := by decide +kernel
theorem dX6_boot_67 : decode cX6_boot 67 = .ok (.aload_n 0, 1) := by decide +kernel
theorem dX6_boot_68 : decode cX6_boot 68 = .ok (.getfield 19, 3) := by decide +kernel
theorem dX6_boot_71 : decode cX6_boot 71 = .ok (.ifCond .eq 7, 3) := by decide +kernel
theorem dX6_boot_74 : decode cX6_boot 74 = .ok (.iload_n 1, 1) := by decide +kernel
theorem dX6_boot_75 : decode cX6_boot 75 = .ok (.goto 5, 3) := by decide +kernel
theorem dX6_boot_78 : decode cX6_boot 78 = .ok (.bipush (-2), 2) := by decide +kernel
theorem dX6_boot_80 : decode cX6_boot 80 = .ok (.ireturn, 1) := by decide +kernel
theorem dX6_boot_81 : decode cX6_boot 81 = .ok (.aload_n 0, 1) := by decide +kernel
theorem dX6_boot_82 : decode cX6_boot 82 = .ok (.aload_n 0, 1) := by decide +kernel
theorem dX6_boot_83 : decode cX6_boot 83 = .ok (.iconst 1, 1) := by decide +kernel
theorem dX6_boot_84 : decode cX6_boot 84 = .ok (.invokevirtual 141, 3) := by decide +kernel
theorem dX6_boot_87 : decode cX6_boot 87 = .ok (.putfield 23, 3) := by decide +kernel
theorem dX6_boot_90 : decode cX6_boot 90 = .ok (.aload_n 0, 1) := by decide +kernel
theorem dX6_boot_91 : decode cX6_boot 91 = .ok (.getfield 23, 3) := by decide +kernel
theorem dX6_boot_94 : decode cX6_boot 94 = .ok (.ireturn, 1) := by decide +kernel
set_option maxRecDepth 20000 in
theorem ggX6_confirm_X6_isConfirmed : GoodIn wsX6_confirm wsX6_isConfirmed := goodIn_r _ [9, 4, 10, 11, 8, 12, 38, 39, 40, 41, 42, 43, 44, 45, 46, 47, 48, 49, 50] (by decide +kernel) (by decide +kernel)
set_option maxRecDepth 20000 in
theorem gX6_confirm_X6_isConfirmed : GoodIn wsX6_confirm (wsV RX6 138 RX6 yX6_isConfirmed wsX6_isConfirmed) := goodIn_app (goodIn_of _ (by decide +kernel)) ggX6_confirm_X6_isConfirmed
set_option maxRecDepth 20000 in
theorem ggX6_confirm_X6_sequenceOf : GoodIn wsX6_confirm wsX6_sequenceOf := goodIn_r _ [16, 4, 10, 11, 8, 12, 38, 39, 40, 41, 42, 43, 44, 45, 46, 47, 48, 49, 50] (by decide +kernel) (by decide +kernel)
set_option maxRecDepth 20000 in
theorem gX6_confirm_X6_sequenceOf : GoodIn wsX6_confirm (wsV RX6 112 RX6 yX6_sequenceOf wsX6_sequenceOf) := goodIn_app (goodIn_of _ (by decide +kernel)) ggX6_confirm_X6_sequenceOf
set_option maxRecDepth 20000 in
theorem ggX6_confirm_X6_headerAt : GoodIn wsX6_confirm wsX6_headerAt := goodIn_r _ [12] (by decide +kernel) (by decide +kernel)
set_option maxRecDepth 20000 in
theorem gX6_confirm_X6_headerAt : GoodIn wsX6_confirm (va_wsS RX6 58 yX6_headerAt wsX6_headerAt) := goodIn_app (goodIn_of _ (by decide +kernel)) ggX6_confirm_X6_headerAt
set_option maxRecDepth 20000 in
theorem ggX6_confirm_X6_program : GoodIn wsX6_confirm wsX6_program := goodIn_r _ [20, 2, 4, 21, 22, 23, 24, 8, 25, 26, 27, 3, 38, 39, 40, 41, 42, 43, 44, 45, 46, 47, 48, 49, 50] (by decide +kernel) (by decide +kernel)
set_option maxRecDepth 20000 in
theorem gX6_confirm_X6_program : GoodIn wsX6_confirm (wsV RX6 83 RX6 yX6_program wsX6_program) := goodIn_app (goodIn_of _ (by decide +kernel)) ggX6_confirm_X6_program
set_option maxRecDepth 20000 in
theorem ggX6_confirm_X6_counterValue : GoodIn wsX6_confirm wsX6_counterValue := goodIn_r _ [31, 4, 32, 33, 8, 34, 38, 39, 40, 41, 42, 43, 44, 45, 46, 47, 48, 49, 50] (by decide +kernel) (by decide +kernel)
set_option maxRecDepth 20000 in
theorem gX6_confirm_X6_counterValue : GoodIn wsX6_confirm (wsV RX6 70 RX6 yX6_counterValue wsX6_counterValue) := goodIn_app (goodIn_of _ (by decide +kernel)) ggX6_confirm_X6_counterValue
set_option maxRecDepth 20000 in
theorem ggX6_confirm_X6_lessOne : GoodIn wsX6_confirm wsX6_lessOne := goodIn_r _ [37] (by decide +kernel) (by decide +kernel)
set_option maxRecDepth 20000 in
theorem gX6_confirm_X6_lessOne : GoodIn wsX6_confirm (va_wsS RX6 145 yX6_lessOne wsX6_lessOne) := goodIn_app (goodIn_of _ (by decide +kernel)) ggX6_confirm_X6_lessOne
theorem dX6_confirm_0 : decode cX6_confirm 0 = .ok (.aload_n 0, 1) := by decide +kernel
theorem dX6_confirm_1 : decode cX6_confirm 1 = .ok (.iconst 0, 1) := by decide +kernel
theorem dX6_confirm_2 : decode cX6_confirm 2 = .ok (.putfield 36, 3) := by decide +kernel
theorem dX6_confirm_5 : decode cX6_confirm 5 = .ok (.aload_n 0, 1) := by decide +kernel
theorem dX6_confirm_6 : decode cX6_confirm 6 = .ok (.getfield 19, 3) := by decide +kernel
theorem dX6_confirm_9 : decode cX6_confirm 9 = .ok (.ifCond .ne 6, 3) := by decide +kernel
theorem dX6_confirm_12 : decode cX6_confirm 12 = .ok (.bipush (-2), 2) := by decide +kernel
theorem dX6_confirm_14 : decode cX6_confirm 14 = .ok (.ireturn, 1) := by decide +kernel
theorem dX6_confirm_15 : decode cX6_confirm 15 = .ok (.aload_n 0, 1) := by decide +kernel
theorem dX6_confirm_16 : decode cX6_confirm 16 = .ok (.getfield 23, 3) := by decide +kernel
theorem dX6_confirm_19 : decode cX6_confirm 19 = .ok (.bipush (-7), 2) := by decide +kernel
end
section
theorem dX6_confirm_21 : decode cX6_confirm 21 = .ok (.if_icmp .ne 6, 3) := by decide +kernel
theorem dX6_confirm_24 : decode cX6_confirm 24 = .ok (.bipush (-7), 2) := by decide +kernel
theorem dX6_confirm_26 : decode cX6_confirm 26 = .ok (.ireturn, 1) := by decide +kernel
theorem dX6_confirm_27 : decode cX6_confirm 27 = .ok (.aload_n 0, 1) := by decide +kernel
theorem dX6_confirm_28 : decode cX6_confirm 28 = .ok (.aload_n 0, 1) := by decide +kernel
theorem dX6_confirm_29 : decode cX6_confirm 29 = .ok (.getfield 23, 3) := by decide +kernel
theorem dX6_confirm_32 : decode cX6_confirm 32 = .ok (.invokevirtual 138, 3) := by decide +kernel
theorem dX6_confirm_35 : decode cX6_confirm 35 = .ok (.ifCond .eq 5, 3) := by decide +kernel
theorem dX6_confirm_38 : decode cX6_confirm 38 = .ok (.iconst 0, 1) := by decide +kernel
theorem dX6_confirm_39 : decode cX6_confirm 39 = .ok (.ireturn, 1) := by decide +kernel
theorem dX6_confirm_40 : decode cX6_confirm 40 = .ok (.aload_n 0, 1) := by decide +kernel
theorem dX6_confirm_41 : decode cX6_confirm 41 = .ok (.aload_n 0, 1) := by decide +kernel
theorem dX6_confirm_42 : decode cX6_confirm 42 = .ok (.getfield 23, 3) := by decide +kernel
theorem dX6_confirm_45 : decode cX6_confirm 45 = .ok (.invokevirtual 112, 3) := by decide +kernel
theorem dX6_confirm_48 : decode cX6_confirm 48 = .ok (.istore_n 1, 1) := by decide +kernel
theorem dX6_confirm_49 : decode cX6_confirm 49 = .ok (.aload_n 0, 1) := by decide +kernel
theorem dX6_confirm_50 : decode cX6_confirm 50 = .ok (.aload_n 0, 1) := by decide +kernel
theorem dX6_confirm_51 : decode cX6_confirm 51 = .ok (.getfield 23, 3) := by decide +kernel
theorem dX6_confirm_54 : decode cX6_confirm 54 = .ok (.invokestatic 58, 3) := by decide +kernel
theorem dX6_confirm_57 : decode cX6_confirm 57 = .ok (.bipush 7, 2) := by decide +kernel
theorem dX6_confirm_59 : decode cX6_confirm 59 = .ok (.iadd, 1) := by decide +kernel
theorem dX6_confirm_60 : decode cX6_confirm 60 = .ok (.iconst 0, 1) := by decide +kernel
theorem dX6_confirm_61 : decode cX6_confirm 61 = .ok (.invokevirtual 83, 3) := by decide +kernel
theorem dX6_confirm_64 : decode cX6_confirm 64 = .ok (.sipush 704, 3) := by decide +kernel
theorem dX6_confirm_67 : decode cX6_confirm 67 = .ok (.istore_n 2, 1) := by decide +kernel
theorem dX6_confirm_68 : decode cX6_confirm 68 = .ok (.iload_n 2, 1) := by decide +kernel
theorem dX6_confirm_69 : decode cX6_confirm 69 = .ok (.sipush 736, 3) := by decide +kernel
theorem dX6_confirm_72 : decode cX6_confirm 72 = .ok (.if_icmp .ge 50, 3) := by decide +kernel
theorem dX6_confirm_75 : decode cX6_confirm 75 = .ok (.aload_n 0, 1) := by decide +kernel
theorem dX6_confirm_76 : decode cX6_confirm 76 = .ok (.getfield 19, 3) := by decide +kernel
theorem dX6_confirm_79 : decode cX6_confirm 79 = .ok (.ifCond .eq 37, 3) := by decide +kernel
theorem dX6_confirm_82 : decode cX6_confirm 82 = .ok (.aload_n 0, 1) := by decide +kernel
theorem dX6_confirm_83 : decode cX6_confirm 83 = .ok (.getfield 7, 3) := by decide +kernel
theorem dX6_confirm_86 : decode cX6_confirm 86 = .ok (.iload_n 2, 1) := by decide +kernel
theorem dX6_confirm_87 : decode cX6_confirm 87 = .ok (.iaload, 1) := by decide +kernel
theorem dX6_confirm_88 : decode cX6_confirm 88 = .ok (.ifCond .eq 28, 3) := by decide +kernel
theorem dX6_confirm_91 : decode cX6_confirm 91 = .ok (.aload_n 0, 1) := by decide +kernel
theorem dX6_confirm_92 : decode cX6_confirm 92 = .ok (.invokevirtual 70, 3) := by decide +kernel
theorem dX6_confirm_95 : decode cX6_confirm 95 = .ok (.iload_n 1, 1) := by decide +kernel
theorem dX6_confirm_96 : decode cX6_confirm 96 = .ok (.if_icmp .ge 20, 3) := by decide +kernel
theorem dX6_confirm_99 : decode cX6_confirm 99 = .ok (.aload_n 0, 1) := by decide +kernel
theorem dX6_confirm_100 : decode cX6_confirm 100 = .ok (.iload_n 2, 1) := by decide +kernel
theorem dX6_confirm_101 : decode cX6_confirm 101 = .ok (.aload_n 0, 1) := by decide +kernel
theorem dX6_confirm_102 : decode cX6_confirm 102 = .ok (.getfield 7, 3) := by decide +kernel
theorem dX6_confirm_105 : decode cX6_confirm 105 = .ok (.iload_n 2, 1) := by decide +kernel
theorem dX6_confirm_106 : decode cX6_confirm 106 = .ok (.iaload, 1) := by decide +kernel
theorem dX6_confirm_107 : decode cX6_confirm 107 = .ok (.invokestatic 145, 3) := by decide +kernel
theorem dX6_confirm_110 : decode cX6_confirm 110 = .ok (.invokevirtual 83, 3) := by decide +kernel
theorem dX6_confirm_113 : decode cX6_confirm 113 = .ok (.goto (-38), 3) := by decide +kernel
theorem dX6_confirm_116 : decode cX6_confirm 116 = .ok (.iinc 2 1, 3) := by decide +kernel
theorem dX6_confirm_119 : decode cX6_confirm 119 = .ok (.goto (-51), 3) := by decide +kernel
theorem dX6_confirm_122 : decode cX6_confirm 122 = .ok (.aload_n 0, 1) := by decide +kernel
theorem dX6_confirm_123 : decode cX6_confirm 123 = .ok (.getfield 19, 3) := by decide +kernel
theorem dX6_confirm_126 : decode cX6_confirm 126 = .ok (.ifCond .eq 7, 3) := by decide +kernel
theorem dX6_confirm_129 : decode cX6_confirm 129 = .ok (.iconst 1, 1) := by decide +kernel
theorem dX6_confirm_130 : decode cX6_confirm 130 = .ok (.goto 5, 3) := by decide +kernel
theorem dX6_confirm_133 : decode cX6_confirm 133 = .ok (.bipush (-2), 2) := by decide +kernel
theorem dX6_confirm_135 : decode cX6_confirm 135 = .ok (.ireturn, 1) := by decide +kernel
theorem dX6_crash_0 : decode cX6_crash 0 = .ok (.aload_n 0, 1) := by decide +kernel
theorem dX6_crash_1 : decode cX6_crash 1 = .ok (.iconst 0, 1) := by decide +kernel
theorem dX6_crash_2 : decode cX6_crash 2 = .ok (.putfield 36, 3) := by decide +kernel
theorem dX6_crash_5 : decode cX6_crash 5 = .ok (.iload_n 2, 1) := by decide +kernel
theorem dX6_crash_6 : decode cX6_crash 6 = .ok (.ifCond .lt 10, 3) := by decide +kernel
theorem dX6_crash_9 : decode cX6_crash 9 = .ok (.iload_n 2, 1) := by decide +kernel
theorem dX6_crash_10 : decode cX6_crash 10 = .ok (.sipush 255, 3) := by decide +kernel
theorem dX6_crash_13 : decode cX6_crash 13 = .ok (.if_icmp .le 5, 3) := by decide +kernel
theorem dX6_crash_16 : decode cX6_crash 16 = .ok (.iconst (-1), 1) := by decide +kernel
theorem dX6_crash_17 : decode cX6_crash 17 = .ok (.ireturn, 1) := by decide +kernel
theorem dX6_crash_18 : decode cX6_crash 18 = .ok (.aload_n 0, 1) := by decide +kernel
theorem dX6_crash_19 : decode cX6_crash 19 = .ok (.iload_n 1, 1) := by decide +kernel
theorem dX6_crash_20 : decode cX6_crash 20 = .ok (.ifCond .ge 7, 3) := by decide +kernel
theorem dX6_crash_23 : decode cX6_crash 23 = .ok (.iconst (-1), 1) := by decide +kernel
theorem dX6_crash_24 : decode cX6_crash 24 = .ok (.goto 4, 3) := by decide +kernel
theorem dX6_crash_27 : decode cX6_crash 27 = .ok (.iload_n 1, 1) := by decide +kernel
theorem dX6_crash_28 : decode cX6_crash 28 = .ok (.putfield 27, 3) := by decide +kernel
theorem dX6_crash_31 : decode cX6_crash 31 = .ok (.aload_n 0, 1) := by decide +kernel
theorem dX6_crash_32 : decode cX6_crash 32 = .ok (.iload_n 2, 1) := by decide +kernel
theorem dX6_crash_33 : decode cX6_crash 33 = .ok (.putfield 46, 3) := by decide +kernel
theorem dX6_crash_36 : decode cX6_crash 36 = .ok (.iconst 1, 1) := by decide +kernel
theorem dX6_crash_37 : decode cX6_crash 37 = .ok (.ireturn, 1) := by decide +kernel
theorem dX6_running_0 : decode cX6_running 0 = .ok (.aload_n 0, 1) := by decide +kernel
theorem dX6_running_1 : decode cX6_running 1 = .ok (.iconst 0, 1) := by decide +kernel
theorem dX6_running_2 : decode cX6_running 2 = .ok (.putfield 36, 3) := by decide +kernel
theorem dX6_running_5 : decode cX6_running 5 = .ok (.aload_n 0, 1) := by decide +kernel
theorem dX6_running_6 : decode cX6_running 6 = .ok (.getfield 23, 3) := by decide +kernel
theorem dX6_running_9 : decode cX6_running 9 = .ok (.ireturn, 1) := by decide +kernel
set_option maxRecDepth 20000 in
theorem ggX6_counter_X6_counterValue : GoodIn wsX6_counter wsX6_counterValue := goodIn_r _ [6, 7, 8, 9, 5, 10, 11, 12, 13, 14, 15, 16, 17, 18, 19, 20, 21, 22, 23] (by decide +kernel) (by decide +kernel)
set_option maxRecDepth 20000 in
theorem gX6_counter_X6_counterValue : GoodIn wsX6_counter (wsV RX6 70 RX6 yX6_counterValue wsX6_counterValue) := goodIn_app (goodIn_of _ (by decide +kernel)) ggX6_counter_X6_counterValue
theorem dX6_counter_0 : decode cX6_counter 0 = .ok (.aload_n 0, 1) := by decide +kernel
theorem dX6_counter_1 : decode cX6_counter 1 = .ok (.iconst 0, 1) := by decide +kernel
theorem dX6_counter_2 : decode cX6_counter 2 = .ok (.putfield 36, 3) := by decide +kernel
theorem dX6_counter_5 : decode cX6_counter 5 = .ok (.aload_n 0, 1) := by decide +kernel
theorem dX6_counter_6 : decode cX6_counter 6 = .ok (.invokevirtual 70, 3) := by decide +kernel
theorem dX6_counter_9 : decode cX6_counter 9 = .ok (.ireturn, 1) := by decide +kernel
theorem dX6_acts_0 : decode cX6_acts 0 = .ok (.aload_n 0, 1) := by decide +kernel
theorem dX6_acts_1 : decode cX6_acts 1 = .ok (.iconst 0, 1) := by decide +kernel
theorem dX6_acts_2 : decode cX6_acts 2 = .ok (.putfield 36, 3) := by decide +kernel
theorem dX6_acts_5 : decode cX6_acts 5 = .ok (.aload_n 0, 1) := by decide +kernel
theorem dX6_acts_6 : decode cX6_acts 6 = .ok (.getfield 39, 3) := by decide +kernel
theorem dX6_acts_9 : decode cX6_acts 9 = .ok (.ireturn, 1) := by decide +kernel
theorem dX6_byteOf_0 : decode cX6_byteOf 0 = .ok (.aload_n 0, 1) := by decide +kernel
theorem dX6_byteOf_1 : decode cX6_byteOf 1 = .ok (.iconst 0, 1) := by decide +kernel
theorem dX6_byteOf_2 : decode cX6_byteOf 2 = .ok (.putfield 36, 3) := by decide +kernel
theorem dX6_byteOf_5 : decode cX6_byteOf 5 = .ok (.iload_n 1, 1) := by decide +kernel
theorem dX6_byteOf_6 : decode cX6_byteOf 6 = .ok (.ifCond .lt 10, 3) := by decide +kernel
theorem dX6_byteOf_9 : decode cX6_byteOf 9 = .ok (.iload_n 1, 1) := by decide +kernel
theorem dX6_byteOf_10 : decode cX6_byteOf 10 = .ok (.sipush 767, 3) := by decide +kernel
theorem dX6_byteOf_13 : decode cX6_byteOf 13 = .ok (.if_icmp .le 7, 3) := by decide +kernel
theorem dX6_byteOf_16 : decode cX6_byteOf 16 = .ok (.iconst (-1), 1) := by decide +kernel
theorem dX6_byteOf_17 : decode cX6_byteOf 17 = .ok (.goto 9, 3) := by decide +kernel
theorem dX6_byteOf_20 : decode cX6_byteOf 20 = .ok (.aload_n 0, 1) := by decide +kernel
theorem dX6_byteOf_21 : decode cX6_byteOf 21 = .ok (.getfield 7, 3) := by decide +kernel
theorem dX6_byteOf_24 : decode cX6_byteOf 24 = .ok (.iload_n 1, 1) := by decide +kernel
theorem dX6_byteOf_25 : decode cX6_byteOf 25 = .ok (.iaload, 1) := by decide +kernel
theorem dX6_byteOf_26 : decode cX6_byteOf 26 = .ok (.ireturn, 1) := by decide +kernel
set_option maxRecDepth 20000 in
theorem ggX6_good_X6_isGood : GoodIn wsX6_good wsX6_isGood := goodIn_r _ [6, 7, 8, 9, 5, 10, 11, 12, 13, 14, 15, 16, 17, 18, 19, 20, 21, 22, 23, 24, 25, 26, 27, 28, 29, 30, 31, 32, 33, 34, 35, 36, 37, 38, 39, 40, 41, 42, 43, 44, 45] (by decide +kernel) (by decide +kernel)
set_option maxRecDepth 20000 in
theorem gX6_good_X6_isGood : GoodIn wsX6_good (wsV RX6 134 RX6 yX6_isGood wsX6_isGood) := goodIn_app (goodIn_of _ (by decide +kernel)) ggX6_good_X6_isGood
theorem dX6_good_0 : decode cX6_good 0 = .ok (.aload_n 0, 1) := by decide +kernel
theorem dX6_good_1 : decode cX6_good 1 = .ok (.iconst 0, 1) := by decide +kernel
theorem dX6_good_2 : decode cX6_good 2 = .ok (.putfield 36, 3) := by decide +kernel
theorem dX6_good_5 : decode cX6_good 5 = .ok (.iload_n 1, 1) := by decide +kernel
theorem dX6_good_6 : decode cX6_good 6 = .ok (.ifCond .lt 8, 3) := by decide +kernel
theorem dX6_good_9 : decode cX6_good 9 = .ok (.iload_n 1, 1) := by decide +kernel
theorem dX6_good_10 : decode cX6_good 10 = .ok (.iconst 1, 1) := by decide +kernel
theorem dX6_good_11 : decode cX6_good 11 = .ok (.if_icmp .le 7, 3) := by decide +kernel
theorem dX6_good_14 : decode cX6_good 14 = .ok (.iconst (-1), 1) := by decide +kernel
theorem dX6_good_15 : decode cX6_good 15 = .ok (.goto 16, 3) := by decide +kernel
theorem dX6_good_18 : decode cX6_good 18 = .ok (.aload_n 0, 1) := by decide +kernel
theorem dX6_good_19 : decode cX6_good 19 = .ok (.iload_n 1, 1) := by decide +kernel
theorem dX6_good_20 : decode cX6_good 20 = .ok (.invokevirtual 134, 3) := by decide +kernel
theorem dX6_good_23 : decode cX6_good 23 = .ok (.ifCond .eq 7, 3) := by decide +kernel
theorem dX6_good_26 : decode cX6_good 26 = .ok (.iconst 1, 1) := by decide +kernel
theorem dX6_good_27 : decode cX6_good 27 = .ok (.goto 4, 3) := by decide +kernel
theorem dX6_good_30 : decode cX6_good 30 = .ok (.iconst 0, 1) := by decide +kernel
theorem dX6_good_31 : decode cX6_good 31 = .ok (.ireturn, 1) := by decide +kernel
theorem dJ6_bitCount_0f7a4_0 : decode cJ6_bitCount_0f7a4 0 = .ok (.iload_n 0, 1) := by decide +kernel
theorem dJ6_bitCount_0f7a4_1 : decode cJ6_bitCount_0f7a4 1 = .ok (.iload_n 0, 1) := by decide +kernel
theorem dJ6_bitCount_0f7a4_2 : decode cJ6_bitCount_0f7a4 2 = .ok (.iconst 1, 1) := by decide +kernel
theorem dJ6_bitCount_0f7a4_3 : decode cJ6_bitCount_0f7a4 3 = .ok (.iushr, 1) := by decide +kernel
theorem dJ6_bitCount_0f7a4_4 : decode cJ6_bitCount_0f7a4 4 = .ok (.ldc_w 265, 3) := by decide +kernel
theorem dJ6_bitCount_0f7a4_7 : decode cJ6_bitCount_0f7a4 7 = .ok (.iand, 1) := by decide +kernel
theorem dJ6_bitCount_0f7a4_8 : decode cJ6_bitCount_0f7a4 8 = .ok (.isub, 1) := by decide +kernel
theorem dJ6_bitCount_0f7a4_9 : decode cJ6_bitCount_0f7a4 9 = .ok (.istore_n 0, 1) := by decide +kernel
theorem dJ6_bitCount_0f7a4_10 : decode cJ6_bitCount_0f7a4 10 = .ok (.iload_n 0, 1) := by decide +kernel
theorem dJ6_bitCount_0f7a4_11 : decode cJ6_bitCount_0f7a4 11 = .ok (.ldc_w 266, 3) := by decide +kernel
theorem dJ6_bitCount_0f7a4_14 : decode cJ6_bitCount_0f7a4 14 = .ok (.iand, 1) := by decide +kernel
theorem dJ6_bitCount_0f7a4_15 : decode cJ6_bitCount_0f7a4 15 = .ok (.iload_n 0, 1) := by decide +kernel
theorem dJ6_bitCount_0f7a4_16 : decode cJ6_bitCount_0f7a4 16 = .ok (.iconst 2, 1) := by decide +kernel
theorem dJ6_bitCount_0f7a4_17 : decode cJ6_bitCount_0f7a4 17 = .ok (.iushr, 1) := by decide +kernel
theorem dJ6_bitCount_0f7a4_18 : decode cJ6_bitCount_0f7a4 18 = .ok (.ldc_w 266, 3) := by decide +kernel
theorem dJ6_bitCount_0f7a4_21 : decode cJ6_bitCount_0f7a4 21 = .ok (.iand, 1) := by decide +kernel
theorem dJ6_bitCount_0f7a4_22 : decode cJ6_bitCount_0f7a4 22 = .ok (.iadd, 1) := by decide +kernel
theorem dJ6_bitCount_0f7a4_23 : decode cJ6_bitCount_0f7a4 23 = .ok (.istore_n 0, 1) := by decide +kernel
theorem dJ6_bitCount_0f7a4_24 : decode cJ6_bitCount_0f7a4 24 = .ok (.iload_n 0, 1) := by decide +kernel
theorem dJ6_bitCount_0f7a4_25 : decode cJ6_bitCount_0f7a4 25 = .ok (.iload_n 0, 1) := by decide +kernel
theorem dJ6_bitCount_0f7a4_26 : decode cJ6_bitCount_0f7a4 26 = .ok (.iconst 4, 1) := by decide +kernel
theorem dJ6_bitCount_0f7a4_27 : decode cJ6_bitCount_0f7a4 27 = .ok (.iushr, 1) := by decide +kernel
theorem dJ6_bitCount_0f7a4_28 : decode cJ6_bitCount_0f7a4 28 = .ok (.iadd, 1) := by decide +kernel
theorem dJ6_bitCount_0f7a4_29 : decode cJ6_bitCount_0f7a4 29 = .ok (.ldc_w 267, 3) := by decide +kernel
theorem dJ6_bitCount_0f7a4_32 : decode cJ6_bitCount_0f7a4 32 = .ok (.iand, 1) := by decide +kernel
theorem dJ6_bitCount_0f7a4_33 : decode cJ6_bitCount_0f7a4 33 = .ok (.istore_n 0, 1) := by decide +kernel
theorem dJ6_bitCount_0f7a4_34 : decode cJ6_bitCount_0f7a4 34 = .ok (.iload_n 0, 1) := by decide +kernel
theorem dJ6_bitCount_0f7a4_35 : decode cJ6_bitCount_0f7a4 35 = .ok (.iload_n 0, 1) := by decide +kernel
theorem dJ6_bitCount_0f7a4_36 : decode cJ6_bitCount_0f7a4 36 = .ok (.bipush 8, 2) := by decide +kernel
theorem dJ6_bitCount_0f7a4_38 : decode cJ6_bitCount_0f7a4 38 = .ok (.iushr, 1) := by decide +kernel
theorem dJ6_bitCount_0f7a4_39 : decode cJ6_bitCount_0f7a4 39 = .ok (.iadd, 1) := by decide +kernel
theorem dJ6_bitCount_0f7a4_40 : decode cJ6_bitCount_0f7a4 40 = .ok (.istore_n 0, 1) := by decide +kernel
theorem dJ6_bitCount_0f7a4_41 : decode cJ6_bitCount_0f7a4 41 = .ok (.iload_n 0, 1) := by decide +kernel
theorem dJ6_bitCount_0f7a4_42 : decode cJ6_bitCount_0f7a4 42 = .ok (.iload_n 0, 1) := by decide +kernel
theorem dJ6_bitCount_0f7a4_43 : decode cJ6_bitCount_0f7a4 43 = .ok (.bipush 16, 2) := by decide +kernel
theorem dJ6_bitCount_0f7a4_45 : decode cJ6_bitCount_0f7a4 45 = .ok (.iushr, 1) := by decide +kernel
theorem dJ6_bitCount_0f7a4_46 : decode cJ6_bitCount_0f7a4 46 = .ok (.iadd, 1) := by decide +kernel
theorem dJ6_bitCount_0f7a4_47 : decode cJ6_bitCount_0f7a4 47 = .ok (.istore_n 0, 1) := by decide +kernel
theorem dJ6_bitCount_0f7a4_48 : decode cJ6_bitCount_0f7a4 48 = .ok (.iload_n 0, 1) := by decide +kernel
theorem dJ6_bitCount_0f7a4_49 : decode cJ6_bitCount_0f7a4 49 = .ok (.bipush 63, 2) := by decide +kernel
theorem dJ6_bitCount_0f7a4_51 : decode cJ6_bitCount_0f7a4 51 = .ok (.iand, 1) := by decide +kernel
theorem dJ6_bitCount_0f7a4_52 : decode cJ6_bitCount_0f7a4 52 = .ok (.ireturn, 1) := by decide +kernel
theorem dJ9_min_7cf53_0 : decode cJ9_min_7cf53 0 = .ok (.iload_n 0, 1) := by decide +kernel
theorem dJ9_min_7cf53_1 : decode cJ9_min_7cf53 1 = .ok (.iload_n 1, 1) := by decide +kernel
theorem dJ9_min_7cf53_2 : decode cJ9_min_7cf53 2 = .ok (.if_icmp .gt 7, 3) := by decide +kernel
theorem dJ9_min_7cf53_5 : decode cJ9_min_7cf53 5 = .ok (.iload_n 0, 1) := by decide +kernel
theorem dJ9_min_7cf53_6 : decode cJ9_min_7cf53 6 = .ok (.goto 4, 3) := by decide +kernel
theorem dJ9_min_7cf53_9 : decode cJ9_min_7cf53 9 = .ok (.iload_n 1, 1) := by decide +kernel
theorem dJ9_min_7cf53_10 : decode cJ9_min_7cf53 10 = .ok (.ireturn, 1) := by decide +kernel
theorem dL_cell_0 : decode cL_cell 0 = .ok (.iload_n 1, 1) := by decide +kernel
theorem dL_cell_1 : decode cL_cell 1 = .ok (.aload_n 0, 1) := by decide +kernel
theorem dL_cell_2 : decode cL_cell 2 = .ok (.arraylength, 1) := by decide +kernel
theorem dL_cell_3 : decode cL_cell 3 = .ok (.if_icmp .ge 9, 3) := by decide +kernel
theorem dL_cell_6 : decode cL_cell 6 = .ok (.aload_n 0, 1) := by decide +kernel
theorem dL_cell_7 : decode cL_cell 7 = .ok (.iload_n 1, 1) := by decide +kernel
theorem dL_cell_8 : decode cL_cell 8 = .ok (.iaload, 1) := by decide +kernel
theorem dL_cell_9 : decode cL_cell 9 = .ok (.goto 4, 3) := by decide +kernel
theorem dL_cell_12 : decode cL_cell 12 = .ok (.iconst 0, 1) := by decide +kernel
theorem dL_cell_13 : decode cL_cell 13 = .ok (.ireturn, 1) := by decide +kernel
set_option maxRecDepth 20000 in
theorem ggL_law_L_cell : GoodIn wsL_law wsL_cell := goodIn_r _ [10] (by decide +kernel) (by decide +kernel)
set_option maxRecDepth 20000 in
theorem gL_law_L_cell : GoodIn wsL_law (va_wsS RL 9 yL_cell wsL_cell) := goodIn_app (goodIn_of _ (by decide +kernel)) ggL_law_L_cell
set_option maxRecDepth 20000 in
theorem ggL_law_X5_init : GoodIn wsL_law wsX5_init := goodIn_r _ [13, 14, 15, 16, 17, 18, 19, 20, 21, 22, 23, 24, 25, 26, 27, 28, 29, 30, 31, 32, 33, 34, 35, 36, 37, 38, 39, 40, 41, 42, 43, 44, 45, 46, 47, 48, 49, 50, 51, 52, 53, 54, 55, 56, 57, 58, 59, 60, 61, 62, 63, 64, 65, 66, 67, 68, 69, 70, 71, 72, 73, 74, 2, 75, 76, 77, 78, 616, 617, 618, 619, 620, 621, 594, 595, 596, 597, 598, 599, 600, 601, 602, 622, 623, 624, 625, 626, 627, 628, 629] (by decide +kernel) (by decide +kernel)
set_option maxRecDepth 20000 in
theorem gL_law_X5_init : GoodIn wsL_law (wsX5_init) := ggL_law_X5_init
set_option maxRecDepth 20000 in
theorem ggL_law_X6_init : GoodIn wsL_law wsX6_init := goodIn_r _ [81, 82, 15, 16, 45, 83, 84, 85, 86, 87, 88, 89, 90, 603, 604, 605, 606, 607, 608, 609, 610, 611, 612, 613, 614, 615] (by decide +kernel) (by decide +kernel)
set_option maxRecDepth 20000 in
theorem gL_law_X6_init : GoodIn wsL_law (wsX6_init) := ggL_law_X6_init
set_option maxRecDepth 20000 in
theorem ggL_law_X5_type : GoodIn wsL_law wsX5_type := goodIn_r _ [94, 24, 95, 96, 97, 23, 98, 56, 55, 594, 595, 596, 597, 598, 599, 600, 601, 602, 622, 623] (by decide +kernel) (by decide +kernel)
set_option maxRecDepth 20000 in
theorem gL_law_X5_type : GoodIn wsL_law (wsV RL 23 RX5 yX5_type wsX5_type) := goodIn_app (goodIn_of _ (by decide +kernel)) ggL_law_X5_type
set_option maxRecDepth 20000 in
theorem ggL_law_X6_type : GoodIn wsL_law wsX6_type := goodIn_r _ [102, 103, 104, 85, 105, 603, 604, 605, 606, 607, 608, 609, 610, 611, 612, 613, 614, 615] (by decide +kernel) (by decide +kernel)
set_option maxRecDepth 20000 in
theorem gL_law_X6_type : GoodIn wsL_law (wsV RL 27 RX6 yX6_type wsX6_type) := goodIn_app (goodIn_of _ (by decide +kernel)) ggL_law_X6_type
set_option maxRecDepth 20000 in
theorem ggL_law_X5_factory : GoodIn wsL_law wsX5_factory := goodIn_r _ [109, 20, 24, 38, 28, 110, 111, 2, 112, 113, 114, 115, 27, 116, 61, 117, 118, 119, 19, 120, 47, 51, 46, 121, 122, 123, 124, 48, 49, 50, 125, 126, 127, 128, 129, 130, 131, 132, 133, 62, 134, 135, 136, 137, 138, 139, 140, 141, 142, 143, 144, 145, 146, 147, 148, 149, 150, 151, 152, 63, 153, 154, 155, 156, 157, 77, 78, 158, 159, 160, 161, 162, 163, 164, 165, 166, 167, 168, 169, 594, 595, 596, 597, 598, 599, 600, 601, 602, 616, 617, 618, 619, 620, 621, 622, 623, 624, 625, 626] (by decide +kernel) (by decide +kernel)
set_option maxRecDepth 20000 in
theorem gL_law_X5_factory : GoodIn wsL_law (wsV RL 28 RX5 yX5_factory wsX5_factory) := goodIn_app (goodIn_of _ (by decide +kernel)) ggL_law_X5_factory
set_option maxRecDepth 20000 in
theorem ggL_law_X6_factory : GoodIn wsL_law wsX6_factory := goodIn_r _ [173, 103, 86, 104, 87, 85, 174, 175, 176, 5, 177, 178, 83, 179, 180, 181, 182, 183, 88, 184, 185, 186, 187, 188, 189, 190, 191, 192, 193, 194, 195, 196, 197, 198, 199, 200, 201, 603, 604, 605, 606, 607, 608, 609, 610, 611, 612, 613, 614, 615] (by decide +kernel) (by decide +kernel)
set_option maxRecDepth 20000 in
theorem gL_law_X6_factory : GoodIn wsL_law (wsV RL 32 RX6 yX6_factory wsX6_factory) := goodIn_app (goodIn_of _ (by decide +kernel)) ggL_law_X6_factory
set_option maxRecDepth 20000 in
theorem ggL_law_X5_manifest : GoodIn wsL_law wsX5_manifest := goodIn_r _ [205, 20, 24, 206, 207, 208, 2, 209, 33, 210, 211, 212, 32, 213, 67, 214, 215, 216, 217, 218, 219, 220, 221, 222, 223, 224, 225, 111, 112, 226, 227, 228, 229, 230, 231, 232, 233, 234, 235, 236, 237, 238, 239, 39, 40, 240, 241, 242, 243, 143, 144, 145, 146, 147, 148, 244, 245, 246, 247, 248, 249, 250, 251, 252, 253, 254, 255, 256, 38, 257, 258, 259, 260, 261, 262, 263, 19, 264, 46, 265, 266, 267, 268, 269, 270, 271, 272, 273, 274, 275, 28, 29, 276, 277, 278, 27, 279, 63, 280, 281, 282, 283, 284, 285, 286, 287, 288, 289, 129, 118, 119, 120, 47, 51, 121, 122, 123, 124, 48, 49, 50, 290, 135, 136, 137, 138, 139, 140, 141, 166, 167, 168, 169, 594, 595, 596, 597, 598, 599, 600, 601, 602, 616, 617, 618, 619, 620, 621, 622, 623, 627, 624, 625, 626] (by decide +kernel) (by decide +kernel)
set_option maxRecDepth 20000 in
theorem gL_law_X5_manifest : GoodIn wsL_law (wsV RL 33 RX5 yX5_manifest wsX5_manifest) := goodIn_app (goodIn_of _ (by decide +kernel)) ggL_law_X5_manifest
set_option maxRecDepth 20000 in
theorem ggL_law_X6_manifest : GoodIn wsL_law wsX6_manifest := goodIn_r _ [294, 103, 86, 104, 83, 85, 295, 296, 297, 5, 298, 299, 300, 301, 302, 303, 304, 305, 306, 307, 308, 309, 84, 90, 188, 189, 190, 191, 310, 311, 312, 313, 314, 315, 316, 317, 87, 318, 319, 320, 321, 322, 323, 324, 325, 326, 327, 328, 196, 197, 198, 174, 175, 176, 177, 178, 179, 180, 181, 182, 183, 88, 184, 185, 186, 187, 603, 604, 605, 606, 607, 608, 609, 610, 611, 612, 613, 614, 615] (by decide +kernel) (by decide +kernel)
set_option maxRecDepth 20000 in
theorem gL_law_X6_manifest : GoodIn wsL_law (wsV RL 37 RX6 yX6_manifest wsX6_manifest) := goodIn_app (goodIn_of _ (by decide +kernel)) ggL_law_X6_manifest
set_option maxRecDepth 20000 in
theorem ggL_law_X5_block : GoodIn wsL_law wsX5_block := goodIn_r _ [332, 20, 33, 24, 333, 334, 335, 2, 336, 337, 338, 339, 32, 340, 67, 285, 262, 263, 19, 264, 46, 218, 219, 220, 221, 222, 223, 224, 225, 111, 112, 226, 227, 228, 229, 230, 231, 232, 233, 234, 235, 236, 237, 238, 239, 39, 40, 240, 241, 242, 243, 143, 144, 145, 146, 147, 148, 244, 245, 246, 247, 248, 249, 250, 251, 341, 342, 343, 344, 345, 346, 347, 348, 349, 350, 351, 352, 353, 354, 355, 356, 357, 358, 359, 261, 290, 135, 136, 137, 138, 139, 140, 141, 47, 51, 121, 122, 123, 124, 48, 49, 50, 360, 166, 167, 168, 169, 38, 594, 595, 596, 597, 598, 599, 600, 601, 602, 616, 617, 618, 619, 620, 621, 622, 623, 627] (by decide +kernel) (by decide +kernel)
set_option maxRecDepth 20000 in
theorem gL_law_X5_block : GoodIn wsL_law (wsV RL 38 RX5 yX5_block wsX5_block) := goodIn_app (goodIn_of _ (by decide +kernel)) ggL_law_X5_block
set_option maxRecDepth 20000 in
theorem ggL_law_X6_block : GoodIn wsL_law wsX6_block := goodIn_r _ [364, 103, 86, 83, 104, 85, 365, 366, 367, 5, 368, 295, 296, 297, 298, 299, 300, 301, 302, 303, 304, 305, 306, 307, 308, 309, 84, 90, 188, 189, 190, 191, 310, 311, 312, 313, 369, 370, 371, 372, 184, 185, 186, 187, 178, 179, 180, 181, 182, 183, 88, 87, 603, 604, 605, 606, 607, 608, 609, 610, 611, 612, 613, 614, 615] (by decide +kernel) (by decide +kernel)
set_option maxRecDepth 20000 in
theorem gL_law_X6_block : GoodIn wsL_law (wsV RL 41 RX6 yX6_block wsX6_block) := goodIn_app (goodIn_of _ (by decide +kernel)) ggL_law_X6_block
set_option maxRecDepth 20000 in
theorem ggL_law_X5_install : GoodIn wsL_law wsX5_install := goodIn_r _ [376, 20, 33, 38, 333, 334, 335, 2, 336, 337, 338, 339, 32, 340, 67, 285, 262, 263, 19, 264, 46, 218, 219, 220, 221, 222, 223, 224, 225, 111, 112, 226, 227, 228, 229, 230, 231, 232, 233, 234, 235, 236, 237, 238, 239, 39, 40, 240, 241, 242, 243, 143, 144, 145, 146, 147, 148, 244, 245, 246, 247, 248, 249, 250, 251, 252, 253, 254, 255, 256, 257, 258, 259, 260, 261, 265, 266, 267, 268, 269, 270, 271, 272, 273, 274, 275, 28, 29, 276, 277, 278, 27, 279, 63, 280, 377, 378, 379, 380, 341, 345, 346, 347, 356, 357, 358, 359, 381, 382, 383, 384, 37, 385, 386, 387, 388, 389, 390, 391, 392, 393, 394, 395, 396, 397, 398, 399, 400, 401, 402, 403, 404, 405, 406, 407, 408, 409, 410, 411, 412, 36, 413, 72, 414, 415, 416, 417, 418, 71, 419, 420, 421, 422, 423, 142, 424, 425, 426, 427, 428, 429, 430, 431, 125, 126, 127, 128, 61, 117, 118, 119, 120, 47, 51, 121, 122, 123, 124, 48, 49, 50, 113, 114, 115, 116, 130, 131, 132, 133, 62, 134, 135, 136, 137, 138, 139, 140, 141, 149, 150, 151, 152, 153, 154, 155, 156, 157, 77, 78, 432, 433, 434, 435, 162, 163, 164, 165, 129, 166, 167, 168, 169, 594, 595, 596, 597, 598, 599, 600, 601, 602, 616, 617, 618, 619, 620, 621, 627, 624, 625, 626, 628, 629] (by decide +kernel) (by decide +kernel)
set_option maxRecDepth 20000 in
theorem gL_law_X5_install : GoodIn wsL_law (wsV RL 42 RX5 yX5_install wsX5_install) := goodIn_app (goodIn_of _ (by decide +kernel)) ggL_law_X5_install
set_option maxRecDepth 20000 in
theorem ggL_law_X6_install : GoodIn wsL_law wsX6_install := goodIn_r _ [439, 103, 86, 83, 87, 440, 89, 365, 366, 367, 5, 368, 295, 296, 297, 298, 299, 300, 301, 302, 85, 303, 304, 305, 306, 307, 308, 309, 84, 90, 188, 189, 190, 191, 310, 311, 312, 313, 314, 315, 316, 317, 318, 319, 320, 321, 322, 323, 324, 325, 326, 327, 328, 196, 197, 198, 369, 370, 371, 372, 441, 442, 443, 444, 445, 446, 447, 448, 449, 450, 451, 452, 453, 454, 455, 456, 457, 458, 459, 174, 175, 176, 177, 178, 179, 180, 181, 182, 183, 88, 184, 185, 186, 187, 192, 193, 194, 195, 199, 200, 201, 603, 604, 605, 606, 607, 608, 609, 610, 611, 612, 613, 614, 615] (by decide +kernel) (by decide +kernel)
set_option maxRecDepth 20000 in
theorem gL_law_X6_install : GoodIn wsL_law (wsV RL 45 RX6 yX6_install wsX6_install) := goodIn_app (goodIn_of _ (by decide +kernel)) ggL_law_X6_install
set_option maxRecDepth 20000 in
theorem ggL_law_X5_boot : GoodIn wsL_law wsX5_boot := goodIn_r _ [463, 20, 38, 464, 465, 466, 2, 467, 28, 29, 468, 469, 470, 471, 257, 258, 259, 260, 261, 262, 263, 19, 264, 46, 265, 266, 267, 268, 269, 270, 271, 472, 473, 474, 27, 475, 62, 476, 477, 478, 479, 63, 280, 480, 407, 408, 409, 230, 231, 481, 277, 278, 279, 482, 386, 387, 388, 389, 146, 147, 148, 483, 399, 400, 401, 402, 403, 404, 405, 484, 485, 486, 487, 488, 489, 490, 491, 492, 493, 494, 495, 276, 496, 497, 498, 499, 500, 272, 273, 274, 275, 501, 502, 503, 504, 505, 506, 507, 508, 138, 139, 140, 141, 47, 51, 121, 122, 123, 124, 48, 49, 50, 166, 167, 168, 169, 594, 595, 596, 597, 598, 599, 600, 601, 602, 616, 617, 618, 619, 620, 621, 624, 625, 626] (by decide +kernel) (by decide +kernel)
set_option maxRecDepth 20000 in
theorem gL_law_X5_boot : GoodIn wsL_law (wsV RL 46 RX5 yX5_boot wsX5_boot) := goodIn_app (goodIn_of _ (by decide +kernel)) ggL_law_X5_boot
set_option maxRecDepth 20000 in
theorem ggL_law_X6_boot : GoodIn wsL_law wsX6_boot := goodIn_r _ [512, 103, 86, 87, 83, 513, 514, 515, 5, 516, 517, 518, 519, 520, 196, 197, 198, 449, 450, 451, 445, 446, 447, 448, 188, 189, 190, 191, 441, 442, 443, 444, 318, 319, 320, 321, 322, 323, 324, 521, 522, 523, 524, 325, 326, 327, 328, 525, 526, 527, 184, 185, 186, 187, 178, 179, 180, 181, 182, 183, 88, 603, 604, 605, 606, 607, 608, 609, 610, 611, 612, 613, 614, 615] (by decide +kernel) (by decide +kernel)
set_option maxRecDepth 20000 in
theorem gL_law_X6_boot : GoodIn wsL_law (wsV RL 49 RX6 yX6_boot wsX6_boot) := goodIn_app (goodIn_of _ (by decide +kernel)) ggL_law_X6_boot
set_option maxRecDepth 20000 in
theorem ggL_law_X5_confirm : GoodIn wsL_law wsX5_confirm := goodIn_r _ [531, 20, 38, 272, 273, 274, 2, 275, 28, 29, 500, 489, 490, 27, 491, 63, 280, 262, 263, 19, 264, 46, 158, 159, 160, 161, 153, 139, 140, 141, 47, 51, 121, 122, 123, 124, 48, 49, 50, 276, 277, 278, 279, 532, 533, 534, 535, 257, 258, 259, 260, 261, 265, 266, 267, 268, 269, 270, 271, 536, 537, 538, 539, 540, 506, 507, 508, 389, 138, 166, 167, 168, 169, 594, 595, 596, 597, 598, 599, 600, 601, 602, 616, 617, 618, 619, 620, 621, 624, 625, 626] (by decide +kernel) (by decide +kernel)
set_option maxRecDepth 20000 in
theorem gL_law_X5_confirm : GoodIn wsL_law (wsV RL 50 RX5 yX5_confirm wsX5_confirm) := goodIn_app (goodIn_of _ (by decide +kernel)) ggL_law_X5_confirm
set_option maxRecDepth 20000 in
theorem ggL_law_X6_confirm : GoodIn wsL_law wsX6_confirm := goodIn_r _ [544, 103, 86, 87, 83, 521, 522, 523, 5, 524, 196, 197, 198, 325, 326, 327, 328, 184, 185, 186, 187, 178, 179, 180, 181, 182, 183, 88, 318, 319, 320, 321, 322, 323, 324, 525, 526, 527, 603, 604, 605, 606, 607, 608, 609, 610, 611, 612, 613, 614, 615] (by decide +kernel) (by decide +kernel)
set_option maxRecDepth 20000 in
theorem gL_law_X6_confirm : GoodIn wsL_law (wsV RL 53 RX6 yX6_confirm wsX6_confirm) := goodIn_app (goodIn_of _ (by decide +kernel)) ggL_law_X6_confirm
set_option maxRecDepth 20000 in
theorem ggL_law_X5_crash : GoodIn wsL_law wsX5_crash := goodIn_r _ [548, 20, 549, 550, 551, 19, 552, 49, 50, 51, 594, 595, 596, 597, 598, 599, 600, 601, 602, 616, 617, 618, 619, 620, 621] (by decide +kernel) (by decide +kernel)
set_option maxRecDepth 20000 in
theorem gL_law_X5_crash : GoodIn wsL_law (wsV RL 54 RX5 yX5_crash wsX5_crash) := goodIn_app (goodIn_of _ (by decide +kernel)) ggL_law_X5_crash
set_option maxRecDepth 20000 in
theorem ggL_law_X6_crash : GoodIn wsL_law wsX6_crash := goodIn_r _ [556, 103, 88, 178, 603, 604, 605, 606, 607, 608, 609, 610, 611, 612, 613, 614, 615] (by decide +kernel) (by decide +kernel)
set_option maxRecDepth 20000 in
theorem gL_law_X6_crash : GoodIn wsL_law (wsV RL 58 RX6 yX6_crash wsX6_crash) := goodIn_app (goodIn_of _ (by decide +kernel)) ggL_law_X6_crash
set_option maxRecDepth 20000 in
theorem ggL_law_X5_running : GoodIn wsL_law wsX5_running := goodIn_r _ [560, 38, 594, 595, 596, 597, 598, 599, 600, 601, 602] (by decide +kernel) (by decide +kernel)
set_option maxRecDepth 20000 in
theorem gL_law_X5_running : GoodIn wsL_law (wsV RL 59 RX5 yX5_running wsX5_running) := goodIn_app (goodIn_of _ (by decide +kernel)) ggL_law_X5_running
set_option maxRecDepth 20000 in
theorem ggL_law_X6_running : GoodIn wsL_law wsX6_running := goodIn_r _ [564, 103, 87, 603, 604, 605, 606, 607, 608, 609, 610, 611, 612, 613, 614, 615] (by decide +kernel) (by decide +kernel)
set_option maxRecDepth 20000 in
theorem gL_law_X6_running : GoodIn wsL_law (wsV RL 62 RX6 yX6_running wsX6_running) := goodIn_app (goodIn_of _ (by decide +kernel)) ggL_law_X6_running
set_option maxRecDepth 20000 in
theorem ggL_law_X5_counter : GoodIn wsL_law wsX5_counter := goodIn_r _ [260, 20, 261, 262, 263, 19, 264, 46, 265, 266, 267, 268, 269, 270, 271, 594, 595, 596, 597, 598, 599, 600, 601, 602, 616, 617, 618, 619, 620, 621] (by decide +kernel) (by decide +kernel)
set_option maxRecDepth 20000 in
theorem gL_law_X5_counter : GoodIn wsL_law (wsV RL 63 RX5 yX5_counter wsX5_counter) := goodIn_app (goodIn_of _ (by decide +kernel)) ggL_law_X5_counter
set_option maxRecDepth 20000 in
theorem ggL_law_X6_counter : GoodIn wsL_law wsX6_counter := goodIn_r _ [569, 103, 318, 319, 320, 5, 321, 83, 322, 323, 324, 603, 604, 605, 606, 607, 608, 609, 610, 611, 612, 613, 614, 615] (by decide +kernel) (by decide +kernel)
set_option maxRecDepth 20000 in
theorem gL_law_X6_counter : GoodIn wsL_law (wsV RL 66 RX6 yX6_counter wsX6_counter) := goodIn_app (goodIn_of _ (by decide +kernel)) ggL_law_X6_counter
set_option maxRecDepth 20000 in
theorem ggL_law_X5_acts : GoodIn wsL_law wsX5_acts := goodIn_r _ [573, 20, 594, 595, 596, 597, 598, 599, 600, 601, 602, 616, 617, 618, 619, 620, 621] (by decide +kernel) (by decide +kernel)
set_option maxRecDepth 20000 in
theorem gL_law_X5_acts : GoodIn wsL_law (wsV RL 67 RX5 yX5_acts wsX5_acts) := goodIn_app (goodIn_of _ (by decide +kernel)) ggL_law_X5_acts
set_option maxRecDepth 20000 in
theorem ggL_law_X6_acts : GoodIn wsL_law wsX6_acts := goodIn_r _ [577, 103, 183, 603, 604, 605, 606, 607, 608, 609, 610, 611, 612, 613, 614, 615] (by decide +kernel) (by decide +kernel)
set_option maxRecDepth 20000 in
theorem gL_law_X6_acts : GoodIn wsL_law (wsV RL 70 RX6 yX6_acts wsX6_acts) := goodIn_app (goodIn_of _ (by decide +kernel)) ggL_law_X6_acts
set_option maxRecDepth 20000 in
theorem ggL_law_X5_byteOf : GoodIn wsL_law wsX5_byteOf := goodIn_r _ [581, 20, 261, 262, 263, 19, 264, 46, 594, 595, 596, 597, 598, 599, 600, 601, 602, 616, 617, 618, 619, 620, 621] (by decide +kernel) (by decide +kernel)
set_option maxRecDepth 20000 in
theorem gL_law_X5_byteOf : GoodIn wsL_law (wsV RL 71 RX5 yX5_byteOf wsX5_byteOf) := goodIn_app (goodIn_of _ (by decide +kernel)) ggL_law_X5_byteOf
set_option maxRecDepth 20000 in
theorem ggL_law_X6_byteOf : GoodIn wsL_law wsX6_byteOf := goodIn_r _ [585, 103, 83, 603, 604, 605, 606, 607, 608, 609, 610, 611, 612, 613, 614, 615] (by decide +kernel) (by decide +kernel)
set_option maxRecDepth 20000 in
theorem gL_law_X6_byteOf : GoodIn wsL_law (wsV RL 74 RX6 yX6_byteOf wsX6_byteOf) := goodIn_app (goodIn_of _ (by decide +kernel)) ggL_law_X6_byteOf
set_option maxRecDepth 20000 in
theorem ggL_law_X5_good : GoodIn wsL_law wsX5_good := goodIn_r _ [589, 272, 273, 274, 2, 275, 28, 29, 468, 469, 470, 471, 20, 257, 258, 259, 260, 261, 262, 263, 19, 264, 46, 265, 266, 267, 268, 269, 270, 271, 472, 473, 474, 27, 475, 62, 476, 477, 478, 479, 63, 280, 480, 407, 408, 409, 230, 231, 481, 277, 278, 279, 482, 386, 387, 388, 389, 146, 147, 148, 483, 399, 400, 401, 402, 403, 404, 405, 594, 595, 596, 597, 598, 599, 600, 601, 602, 616, 617, 618, 619, 620, 621, 624, 625, 626] (by decide +kernel) (by decide +kernel)
set_option maxRecDepth 20000 in
theorem gL_law_X5_good : GoodIn wsL_law (wsV RL 75 RX5 yX5_good wsX5_good) := goodIn_app (goodIn_of _ (by decide +kernel)) ggL_law_X5_good
set_option maxRecDepth 20000 in
theorem ggL_law_X6_good : GoodIn wsL_law wsX6_good := goodIn_r _ [593, 103, 517, 518, 519, 5, 520, 83, 196, 197, 198, 449, 450, 451, 445, 446, 447, 448, 188, 189, 190, 191, 441, 442, 443, 444, 318, 319, 320, 321, 322, 323, 324, 603, 604, 605, 606, 607, 608, 609, 610, 611, 612, 613, 614, 615] (by decide +kernel) (by decide +kernel)
set_option maxRecDepth 20000 in
theorem gL_law_X6_good : GoodIn wsL_law (wsV RL 78 RX6 yX6_good wsX6_good) := goodIn_app (goodIn_of _ (by decide +kernel)) ggL_law_X6_good
theorem dL_law_0 : decode cL_law 0 = .ok (.new 7, 3) := by decide +kernel
theorem dL_law_3 : decode cL_law 3 = .ok (.dup, 1) := by decide +kernel
theorem dL_law_4 : decode cL_law 4 = .ok (.aload_n 0, 1) := by decide +kernel
theorem dL_law_5 : decode cL_law 5 = .ok (.iconst 0, 1) := by decide +kernel
theorem dL_law_6 : decode cL_law 6 = .ok (.invokestatic 9, 3) := by decide +kernel
theorem dL_law_9 : decode cL_law 9 = .ok (.aload_n 0, 1) := by decide +kernel
theorem dL_law_10 : decode cL_law 10 = .ok (.iconst 1, 1) := by decide +kernel
theorem dL_law_11 : decode cL_law 11 = .ok (.invokestatic 9, 3) := by decide +kernel
theorem dL_law_14 : decode cL_law 14 = .ok (.aload_n 0, 1) := by decide +kernel
theorem dL_law_15 : decode cL_law 15 = .ok (.iconst 2, 1) := by decide +kernel
theorem dL_law_16 : decode cL_law 16 = .ok (.invokestatic 9, 3) := by decide +kernel
theorem dL_law_19 : decode cL_law 19 = .ok (.invokespecial 15, 3) := by decide +kernel
theorem dL_law_22 : decode cL_law 22 = .ok (.astore_n 1, 1) := by decide +kernel
theorem dL_law_23 : decode cL_law 23 = .ok (.new 18, 3) := by decide +kernel
theorem dL_law_26 : decode cL_law 26 = .ok (.dup, 1) := by decide +kernel
theorem dL_law_27 : decode cL_law 27 = .ok (.aload_n 0, 1) := by decide +kernel
theorem dL_law_28 : decode cL_law 28 = .ok (.iconst 0, 1) := by decide +kernel
theorem dL_law_29 : decode cL_law 29 = .ok (.invokestatic 9, 3) := by decide +kernel
theorem dL_law_32 : decode cL_law 32 = .ok (.aload_n 0, 1) := by decide +kernel
theorem dL_law_33 : decode cL_law 33 = .ok (.iconst 1, 1) := by decide +kernel
theorem dL_law_34 : decode cL_law 34 = .ok (.invokestatic 9, 3) := by decide +kernel
theorem dL_law_37 : decode cL_law 37 = .ok (.aload_n 0, 1) := by decide +kernel
theorem dL_law_38 : decode cL_law 38 = .ok (.iconst 2, 1) := by decide +kernel
theorem dL_law_39 : decode cL_law 39 = .ok (.invokestatic 9, 3) := by decide +kernel
theorem dL_law_42 : decode cL_law 42 = .ok (.invokespecial 20, 3) := by decide +kernel
theorem dL_law_45 : decode cL_law 45 = .ok (.astore_n 2, 1) := by decide +kernel
theorem dL_law_46 : decode cL_law 46 = .ok (.iconst 3, 1) := by decide +kernel
theorem dL_law_47 : decode cL_law 47 = .ok (.istore_n 3, 1) := by decide +kernel
theorem dL_law_48 : decode cL_law 48 = .ok (.iload_n 3, 1) := by decide +kernel
theorem dL_law_49 : decode cL_law 49 = .ok (.aload_n 0, 1) := by decide +kernel
theorem dL_law_50 : decode cL_law 50 = .ok (.arraylength, 1) := by decide +kernel
theorem dL_law_51 : decode cL_law 51 = .ok (.iconst 4, 1) := by decide +kernel
theorem dL_law_52 : decode cL_law 52 = .ok (.isub, 1) := by decide +kernel
theorem dL_law_53 : decode cL_law 53 = .ok (.if_icmp .gt 360, 3) := by decide +kernel
theorem dL_law_56 : decode cL_law 56 = .ok (.aload_n 0, 1) := by decide +kernel
theorem dL_law_57 : decode cL_law 57 = .ok (.iload_n 3, 1) := by decide +kernel
theorem dL_law_58 : decode cL_law 58 = .ok (.iaload, 1) := by decide +kernel
theorem dL_law_59 : decode cL_law 59 = .ok (.bipush 15, 2) := by decide +kernel
theorem dL_law_61 : decode cL_law 61 = .ok (.iand, 1) := by decide +kernel
theorem dL_law_62 : decode cL_law 62 = .ok (.tableswitch 345 0 12 #[66, 129, 152, 165, 188, 201, 214, 227, 260, 273, 286, 299, 322], 66) := by decide +kernel
theorem dL_law_128 : decode cL_law 128 = .ok (.aload_n 1, 1) := by decide +kernel
theorem dL_law_129 : decode cL_law 129 = .ok (.aload_n 0, 1) := by decide +kernel
theorem dL_law_130 : decode cL_law 130 = .ok (.iload_n 3, 1) := by decide +kernel
theorem dL_law_131 : decode cL_law 131 = .ok (.iconst 1, 1) := by decide +kernel
theorem dL_law_132 : decode cL_law 132 = .ok (.iadd, 1) := by decide +kernel
theorem dL_law_133 : decode cL_law 133 = .ok (.iaload, 1) := by decide +kernel
theorem dL_law_134 : decode cL_law 134 = .ok (.i2l, 1) := by decide +kernel
theorem dL_law_135 : decode cL_law 135 = .ok (.bipush 32, 2) := by decide +kernel
theorem dL_law_137 : decode cL_law 137 = .ok (.lshl, 1) := by decide +kernel
theorem dL_law_138 : decode cL_law 138 = .ok (.aload_n 0, 1) := by decide +kernel
theorem dL_law_139 : decode cL_law 139 = .ok (.iload_n 3, 1) := by decide +kernel
theorem dL_law_140 : decode cL_law 140 = .ok (.iconst 2, 1) := by decide +kernel
theorem dL_law_141 : decode cL_law 141 = .ok (.iadd, 1) := by decide +kernel
theorem dL_law_142 : decode cL_law 142 = .ok (.iaload, 1) := by decide +kernel
theorem dL_law_143 : decode cL_law 143 = .ok (.i2l, 1) := by decide +kernel
theorem dL_law_144 : decode cL_law 144 = .ok (.ldc2_w 21, 3) := by decide +kernel
theorem dL_law_147 : decode cL_law 147 = .ok (.land, 1) := by decide +kernel
theorem dL_law_148 : decode cL_law 148 = .ok (.lor, 1) := by decide +kernel
theorem dL_law_149 : decode cL_law 149 = .ok (.aload_n 0, 1) := by decide +kernel
theorem dL_law_150 : decode cL_law 150 = .ok (.iload_n 3, 1) := by decide +kernel
theorem dL_law_151 : decode cL_law 151 = .ok (.iconst 3, 1) := by decide +kernel
theorem dL_law_152 : decode cL_law 152 = .ok (.iadd, 1) := by decide +kernel
theorem dL_law_153 : decode cL_law 153 = .ok (.iaload, 1) := by decide +kernel
theorem dL_law_154 : decode cL_law 154 = .ok (.invokevirtual 23, 3) := by decide +kernel
theorem dL_law_157 : decode cL_law 157 = .ok (.aload_n 2, 1) := by decide +kernel
theorem dL_law_158 : decode cL_law 158 = .ok (.aload_n 0, 1) := by decide +kernel
theorem dL_law_159 : decode cL_law 159 = .ok (.iload_n 3, 1) := by decide +kernel
theorem dL_law_160 : decode cL_law 160 = .ok (.iconst 1, 1) := by decide +kernel
theorem dL_law_161 : decode cL_law 161 = .ok (.iadd, 1) := by decide +kernel
theorem dL_law_162 : decode cL_law 162 = .ok (.iaload, 1) := by decide +kernel
theorem dL_law_163 : decode cL_law 163 = .ok (.i2l, 1) := by decide +kernel
theorem dL_law_164 : decode cL_law 164 = .ok (.bipush 32, 2) := by decide +kernel
theorem dL_law_166 : decode cL_law 166 = .ok (.lshl, 1) := by decide +kernel
theorem dL_law_167 : decode cL_law 167 = .ok (.aload_n 0, 1) := by decide +kernel
theorem dL_law_168 : decode cL_law 168 = .ok (.iload_n 3, 1) := by decide +kernel
theorem dL_law_169 : decode cL_law 169 = .ok (.iconst 2, 1) := by decide +kernel
theorem dL_law_170 : decode cL_law 170 = .ok (.iadd, 1) := by decide +kernel
theorem dL_law_171 : decode cL_law 171 = .ok (.iaload, 1) := by decide +kernel
theorem dL_law_172 : decode cL_law 172 = .ok (.i2l, 1) := by decide +kernel
theorem dL_law_173 : decode cL_law 173 = .ok (.ldc2_w 21, 3) := by decide +kernel
theorem dL_law_176 : decode cL_law 176 = .ok (.land, 1) := by decide +kernel
theorem dL_law_177 : decode cL_law 177 = .ok (.lor, 1) := by decide +kernel
theorem dL_law_178 : decode cL_law 178 = .ok (.aload_n 0, 1) := by decide +kernel
theorem dL_law_179 : decode cL_law 179 = .ok (.iload_n 3, 1) := by decide +kernel
theorem dL_law_180 : decode cL_law 180 = .ok (.iconst 3, 1) := by decide +kernel
theorem dL_law_181 : decode cL_law 181 = .ok (.iadd, 1) := by decide +kernel
theorem dL_law_182 : decode cL_law 182 = .ok (.iaload, 1) := by decide +kernel
theorem dL_law_183 : decode cL_law 183 = .ok (.invokevirtual 27, 3) := by decide +kernel
theorem dL_law_186 : decode cL_law 186 = .ok (.if_icmp .eq 221, 3) := by decide +kernel
theorem dL_law_189 : decode cL_law 189 = .ok (.iconst 0, 1) := by decide +kernel
theorem dL_law_190 : decode cL_law 190 = .ok (.ireturn, 1) := by decide +kernel
theorem dL_law_191 : decode cL_law 191 = .ok (.aload_n 1, 1) := by decide +kernel
theorem dL_law_192 : decode cL_law 192 = .ok (.aload_n 0, 1) := by decide +kernel
theorem dL_law_193 : decode cL_law 193 = .ok (.iload_n 3, 1) := by decide +kernel
theorem dL_law_194 : decode cL_law 194 = .ok (.iconst 1, 1) := by decide +kernel
theorem dL_law_195 : decode cL_law 195 = .ok (.iadd, 1) := by decide +kernel
theorem dL_law_196 : decode cL_law 196 = .ok (.iaload, 1) := by decide +kernel
theorem dL_law_197 : decode cL_law 197 = .ok (.invokevirtual 28, 3) := by decide +kernel
theorem dL_law_200 : decode cL_law 200 = .ok (.aload_n 2, 1) := by decide +kernel
theorem dL_law_201 : decode cL_law 201 = .ok (.aload_n 0, 1) := by decide +kernel
theorem dL_law_202 : decode cL_law 202 = .ok (.iload_n 3, 1) := by decide +kernel
theorem dL_law_203 : decode cL_law 203 = .ok (.iconst 1, 1) := by decide +kernel
theorem dL_law_204 : decode cL_law 204 = .ok (.iadd, 1) := by decide +kernel
theorem dL_law_205 : decode cL_law 205 = .ok (.iaload, 1) := by decide +kernel
theorem dL_law_206 : decode cL_law 206 = .ok (.invokevirtual 32, 3) := by decide +kernel
theorem dL_law_209 : decode cL_law 209 = .ok (.if_icmp .eq 198, 3) := by decide +kernel
theorem dL_law_212 : decode cL_law 212 = .ok (.iconst 0, 1) := by decide +kernel
theorem dL_law_213 : decode cL_law 213 = .ok (.ireturn, 1) := by decide +kernel
theorem dL_law_214 : decode cL_law 214 = .ok (.aload_n 1, 1) := by decide +kernel
theorem dL_law_215 : decode cL_law 215 = .ok (.invokevirtual 33, 3) := by decide +kernel
theorem dL_law_218 : decode cL_law 218 = .ok (.aload_n 2, 1) := by decide +kernel
theorem dL_law_219 : decode cL_law 219 = .ok (.invokevirtual 37, 3) := by decide +kernel
theorem dL_law_222 : decode cL_law 222 = .ok (.if_icmp .eq 185, 3) := by decide +kernel
theorem dL_law_225 : decode cL_law 225 = .ok (.iconst 0, 1) := by decide +kernel
theorem dL_law_226 : decode cL_law 226 = .ok (.ireturn, 1) := by decide +kernel
theorem dL_law_227 : decode cL_law 227 = .ok (.aload_n 1, 1) := by decide +kernel
theorem dL_law_228 : decode cL_law 228 = .ok (.aload_n 0, 1) := by decide +kernel
theorem dL_law_229 : decode cL_law 229 = .ok (.iload_n 3, 1) := by decide +kernel
theorem dL_law_230 : decode cL_law 230 = .ok (.iconst 1, 1) := by decide +kernel
theorem dL_law_231 : decode cL_law 231 = .ok (.iadd, 1) := by decide +kernel
theorem dL_law_232 : decode cL_law 232 = .ok (.iaload, 1) := by decide +kernel
theorem dL_law_233 : decode cL_law 233 = .ok (.invokevirtual 38, 3) := by decide +kernel
theorem dL_law_236 : decode cL_law 236 = .ok (.aload_n 2, 1) := by decide +kernel
theorem dL_law_237 : decode cL_law 237 = .ok (.aload_n 0, 1) := by decide +kernel
theorem dL_law_238 : decode cL_law 238 = .ok (.iload_n 3, 1) := by decide +kernel
theorem dL_law_239 : decode cL_law 239 = .ok (.iconst 1, 1) := by decide +kernel
theorem dL_law_240 : decode cL_law 240 = .ok (.iadd, 1) := by decide +kernel
theorem dL_law_241 : decode cL_law 241 = .ok (.iaload, 1) := by decide +kernel
theorem dL_law_242 : decode cL_law 242 = .ok (.invokevirtual 41, 3) := by decide +kernel
theorem dL_law_245 : decode cL_law 245 = .ok (.if_icmp .eq 162, 3) := by decide +kernel
theorem dL_law_248 : decode cL_law 248 = .ok (.iconst 0, 1) := by decide +kernel
theorem dL_law_249 : decode cL_law 249 = .ok (.ireturn, 1) := by decide +kernel
theorem dL_law_250 : decode cL_law 250 = .ok (.aload_n 1, 1) := by decide +kernel
theorem dL_law_251 : decode cL_law 251 = .ok (.invokevirtual 42, 3) := by decide +kernel
theorem dL_law_254 : decode cL_law 254 = .ok (.aload_n 2, 1) := by decide +kernel
theorem dL_law_255 : decode cL_law 255 = .ok (.invokevirtual 45, 3) := by decide +kernel
theorem dL_law_258 : decode cL_law 258 = .ok (.if_icmp .eq 149, 3) := by decide +kernel
theorem dL_law_261 : decode cL_law 261 = .ok (.iconst 0, 1) := by decide +kernel
theorem dL_law_262 : decode cL_law 262 = .ok (.ireturn, 1) := by decide +kernel
theorem dL_law_263 : decode cL_law 263 = .ok (.aload_n 1, 1) := by decide +kernel
theorem dL_law_264 : decode cL_law 264 = .ok (.invokevirtual 46, 3) := by decide +kernel
theorem dL_law_267 : decode cL_law 267 = .ok (.aload_n 2, 1) := by decide +kernel
theorem dL_law_268 : decode cL_law 268 = .ok (.invokevirtual 49, 3) := by decide +kernel
theorem dL_law_271 : decode cL_law 271 = .ok (.if_icmp .eq 136, 3) := by decide +kernel
theorem dL_law_274 : decode cL_law 274 = .ok (.iconst 0, 1) := by decide +kernel
theorem dL_law_275 : decode cL_law 275 = .ok (.ireturn, 1) := by decide +kernel
theorem dL_law_276 : decode cL_law 276 = .ok (.aload_n 1, 1) := by decide +kernel
theorem dL_law_277 : decode cL_law 277 = .ok (.invokevirtual 50, 3) := by decide +kernel
theorem dL_law_280 : decode cL_law 280 = .ok (.aload_n 2, 1) := by decide +kernel
theorem dL_law_281 : decode cL_law 281 = .ok (.invokevirtual 53, 3) := by decide +kernel
theorem dL_law_284 : decode cL_law 284 = .ok (.if_icmp .eq 123, 3) := by decide +kernel
theorem dL_law_287 : decode cL_law 287 = .ok (.iconst 0, 1) := by decide +kernel
theorem dL_law_288 : decode cL_law 288 = .ok (.ireturn, 1) := by decide +kernel
theorem dL_law_289 : decode cL_law 289 = .ok (.aload_n 1, 1) := by decide +kernel
theorem dL_law_290 : decode cL_law 290 = .ok (.aload_n 0, 1) := by decide +kernel
theorem dL_law_291 : decode cL_law 291 = .ok (.iload_n 3, 1) := by decide +kernel
theorem dL_law_292 : decode cL_law 292 = .ok (.iconst 1, 1) := by decide +kernel
theorem dL_law_293 : decode cL_law 293 = .ok (.iadd, 1) := by decide +kernel
theorem dL_law_294 : decode cL_law 294 = .ok (.iaload, 1) := by decide +kernel
theorem dL_law_295 : decode cL_law 295 = .ok (.aload_n 0, 1) := by decide +kernel
theorem dL_law_296 : decode cL_law 296 = .ok (.iload_n 3, 1) := by decide +kernel
theorem dL_law_297 : decode cL_law 297 = .ok (.iconst 2, 1) := by decide +kernel
theorem dL_law_298 : decode cL_law 298 = .ok (.iadd, 1) := by decide +kernel
theorem dL_law_299 : decode cL_law 299 = .ok (.iaload, 1) := by decide +kernel
theorem dL_law_300 : decode cL_law 300 = .ok (.invokevirtual 54, 3) := by decide +kernel
theorem dL_law_303 : decode cL_law 303 = .ok (.aload_n 2, 1) := by decide +kernel
theorem dL_law_304 : decode cL_law 304 = .ok (.aload_n 0, 1) := by decide +kernel
theorem dL_law_305 : decode cL_law 305 = .ok (.iload_n 3, 1) := by decide +kernel
theorem dL_law_306 : decode cL_law 306 = .ok (.iconst 1, 1) := by decide +kernel
theorem dL_law_307 : decode cL_law 307 = .ok (.iadd, 1) := by decide +kernel
theorem dL_law_308 : decode cL_law 308 = .ok (.iaload, 1) := by decide +kernel
theorem dL_law_309 : decode cL_law 309 = .ok (.aload_n 0, 1) := by decide +kernel
theorem dL_law_310 : decode cL_law 310 = .ok (.iload_n 3, 1) := by decide +kernel
theorem dL_law_311 : decode cL_law 311 = .ok (.iconst 2, 1) := by decide +kernel
theorem dL_law_312 : decode cL_law 312 = .ok (.iadd, 1) := by decide +kernel
theorem dL_law_313 : decode cL_law 313 = .ok (.iaload, 1) := by decide +kernel
theorem dL_law_314 : decode cL_law 314 = .ok (.invokevirtual 58, 3) := by decide +kernel
theorem dL_law_317 : decode cL_law 317 = .ok (.if_icmp .eq 90, 3) := by decide +kernel
theorem dL_law_320 : decode cL_law 320 = .ok (.iconst 0, 1) := by decide +kernel
theorem dL_law_321 : decode cL_law 321 = .ok (.ireturn, 1) := by decide +kernel
theorem dL_law_322 : decode cL_law 322 = .ok (.aload_n 1, 1) := by decide +kernel
theorem dL_law_323 : decode cL_law 323 = .ok (.invokevirtual 59, 3) := by decide +kernel
theorem dL_law_326 : decode cL_law 326 = .ok (.aload_n 2, 1) := by decide +kernel
theorem dL_law_327 : decode cL_law 327 = .ok (.invokevirtual 62, 3) := by decide +kernel
theorem dL_law_330 : decode cL_law 330 = .ok (.if_icmp .eq 77, 3) := by decide +kernel
theorem dL_law_333 : decode cL_law 333 = .ok (.iconst 0, 1) := by decide +kernel
theorem dL_law_334 : decode cL_law 334 = .ok (.ireturn, 1) := by decide +kernel
theorem dL_law_335 : decode cL_law 335 = .ok (.aload_n 1, 1) := by decide +kernel
theorem dL_law_336 : decode cL_law 336 = .ok (.invokevirtual 63, 3) := by decide +kernel
theorem dL_law_339 : decode cL_law 339 = .ok (.aload_n 2, 1) := by decide +kernel
theorem dL_law_340 : decode cL_law 340 = .ok (.invokevirtual 66, 3) := by decide +kernel
theorem dL_law_343 : decode cL_law 343 = .ok (.if_icmp .eq 64, 3) := by decide +kernel
theorem dL_law_346 : decode cL_law 346 = .ok (.iconst 0, 1) := by decide +kernel
theorem dL_law_347 : decode cL_law 347 = .ok (.ireturn, 1) := by decide +kernel
theorem dL_law_348 : decode cL_law 348 = .ok (.aload_n 1, 1) := by decide +kernel
theorem dL_law_349 : decode cL_law 349 = .ok (.invokevirtual 67, 3) := by decide +kernel
theorem dL_law_352 : decode cL_law 352 = .ok (.aload_n 2, 1) := by decide +kernel
theorem dL_law_353 : decode cL_law 353 = .ok (.invokevirtual 70, 3) := by decide +kernel
theorem dL_law_356 : decode cL_law 356 = .ok (.if_icmp .eq 51, 3) := by decide +kernel
theorem dL_law_359 : decode cL_law 359 = .ok (.iconst 0, 1) := by decide +kernel
theorem dL_law_360 : decode cL_law 360 = .ok (.ireturn, 1) := by decide +kernel
theorem dL_law_361 : decode cL_law 361 = .ok (.aload_n 1, 1) := by decide +kernel
theorem dL_law_362 : decode cL_law 362 = .ok (.aload_n 0, 1) := by decide +kernel
theorem dL_law_363 : decode cL_law 363 = .ok (.iload_n 3, 1) := by decide +kernel
theorem dL_law_364 : decode cL_law 364 = .ok (.iconst 1, 1) := by decide +kernel
theorem dL_law_365 : decode cL_law 365 = .ok (.iadd, 1) := by decide +kernel
theorem dL_law_366 : decode cL_law 366 = .ok (.iaload, 1) := by decide +kernel
theorem dL_law_367 : decode cL_law 367 = .ok (.invokevirtual 71, 3) := by decide +kernel
theorem dL_law_370 : decode cL_law 370 = .ok (.aload_n 2, 1) := by decide +kernel
theorem dL_law_371 : decode cL_law 371 = .ok (.aload_n 0, 1) := by decide +kernel
theorem dL_law_372 : decode cL_law 372 = .ok (.iload_n 3, 1) := by decide +kernel
theorem dL_law_373 : decode cL_law 373 = .ok (.iconst 1, 1) := by decide +kernel
theorem dL_law_374 : decode cL_law 374 = .ok (.iadd, 1) := by decide +kernel
theorem dL_law_375 : decode cL_law 375 = .ok (.iaload, 1) := by decide +kernel
theorem dL_law_376 : decode cL_law 376 = .ok (.invokevirtual 74, 3) := by decide +kernel
theorem dL_law_379 : decode cL_law 379 = .ok (.if_icmp .eq 28, 3) := by decide +kernel
theorem dL_law_382 : decode cL_law 382 = .ok (.iconst 0, 1) := by decide +kernel
theorem dL_law_383 : decode cL_law 383 = .ok (.ireturn, 1) := by decide +kernel
theorem dL_law_384 : decode cL_law 384 = .ok (.aload_n 1, 1) := by decide +kernel
theorem dL_law_385 : decode cL_law 385 = .ok (.aload_n 0, 1) := by decide +kernel
theorem dL_law_386 : decode cL_law 386 = .ok (.iload_n 3, 1) := by decide +kernel
theorem dL_law_387 : decode cL_law 387 = .ok (.iconst 1, 1) := by decide +kernel
theorem dL_law_388 : decode cL_law 388 = .ok (.iadd, 1) := by decide +kernel
theorem dL_law_389 : decode cL_law 389 = .ok (.iaload, 1) := by decide +kernel
theorem dL_law_390 : decode cL_law 390 = .ok (.invokevirtual 75, 3) := by decide +kernel
theorem dL_law_393 : decode cL_law 393 = .ok (.aload_n 2, 1) := by decide +kernel
theorem dL_law_394 : decode cL_law 394 = .ok (.aload_n 0, 1) := by decide +kernel
theorem dL_law_395 : decode cL_law 395 = .ok (.iload_n 3, 1) := by decide +kernel
theorem dL_law_396 : decode cL_law 396 = .ok (.iconst 1, 1) := by decide +kernel
theorem dL_law_397 : decode cL_law 397 = .ok (.iadd, 1) := by decide +kernel
theorem dL_law_398 : decode cL_law 398 = .ok (.iaload, 1) := by decide +kernel
theorem dL_law_399 : decode cL_law 399 = .ok (.invokevirtual 78, 3) := by decide +kernel
theorem dL_law_402 : decode cL_law 402 = .ok (.if_icmp .eq 5, 3) := by decide +kernel
theorem dL_law_405 : decode cL_law 405 = .ok (.iconst 0, 1) := by decide +kernel
theorem dL_law_406 : decode cL_law 406 = .ok (.ireturn, 1) := by decide +kernel
theorem dL_law_407 : decode cL_law 407 = .ok (.iinc 3 4, 3) := by decide +kernel
theorem dL_law_410 : decode cL_law 410 = .ok (.goto (-362), 3) := by decide +kernel
theorem dL_law_413 : decode cL_law 413 = .ok (.iconst 1, 1) := by decide +kernel
theorem dL_law_414 : decode cL_law 414 = .ok (.ireturn, 1) := by decide +kernel
end
section
-- the class's methods as plain functions: each as its bytecode branches
abbrev RW : Type := Nat → Int32
abbrev FS : Type := RW × Int32 × Int32 × Int32 × Int32 × Int32
def zushr (x y : Int32) : Int32 := (x.toUInt32 >>> (y.toUInt32 &&& Int32.toUInt32 31)).toInt32
def zlushr (x : Int64) (y : Int32) : Int64 := (x.toUInt64 >>> (y.toInt64.toUInt64 &&& Int64.toUInt64 63)).toInt64
def zlshr (x : Int64) (y : Int32) : Int64 := x >>> (y.toInt64 &&& 63)
def zlshl (x : Int64) (y : Int32) : Int64 := x <<< (y.toInt64 &&& 63)
def z_fill (f : RW) (b : Nat) : Nat → RW
  | 0 => f
  | i + 1 => upd (z_fill f b i) (b + i) 255
def z_cnt (t k : Int32) : Int32 := if t = 0 then 32 else k - k / 32 * 32
def z_tear : FS → Int32 × FS
  | (f, p, a, st, n, k) => if st = 0 then (0, f, p, a + 1, st, n, k) else if n ≤ 0 then (1, f, 0, a + 1, 0, n, k) else (0, f, p, a + 1, st, n - 1, k)
def z_erase2 (pg : Nat) : Int32 × FS → FS
  | (t, f, p, a, st, n, k) => (z_fill f (pg * 32) (z_cnt t k).toNatClampNeg, p, a, st, n, k)
def z_erase (pg : Nat) : FS → FS
  | (f, p, a, st, n, k) => if p = 0 then (f, p, a, st, n, k) else z_erase2 pg (z_tear (f, p, a, st, n, k))
def z_prog2 (i v : Int32) : Int32 × FS → FS
  | (t, f, p, a, st, n, k) => (upd f i.toNatClampNeg (f i.toNatClampNeg &&& (if t = 0 then v else v ||| k)), p, a, st, n, k)
def z_prog (i v : Int32) : FS → FS
  | (f, p, a, st, n, k) => if p = 0 then (f, p, a, st, n, k) else if i < 0 then (f, p, a, st, n, k) else if i < 768 then z_prog2 i v (z_tear (f, p, a, st, n, k)) else (f, p, a, st, n, k)
def z_at (f : RW) (i : Int32) : Int32 := if i < 0 then (-1) else if 768 ≤ i then (-1) else f i.toNatClampNeg
def z_set (x y : Int32) (q : FS) : FS := (q.1, q.2.1, q.2.2.1, if x < 0 then 0 else 1, x, y)
def z_rowN (F : FS) (b : Int32) (row : RW) : Nat → FS
  | 0 => F
  | i + 1 => z_prog (b + nI i) (row i) (z_rowN F b row i)
def z_row (b : Int32) (row : RW) (rl : Nat) (len : Int32) (F : FS) : FS := z_rowN F b row (min len.toNatClampNeg rl)
def z_bow (w i : Int32) : Int32 := zushr w (24 - 8 * i) &&& 255
def z_pwN (F : FS) (b w : Int32) : Nat → FS
  | 0 => F
  | i + 1 => z_prog (b + nI i) (z_bow w (nI i)) (z_pwN F b w i)
def z_pw (b w : Int32) (F : FS) : FS := z_pwN F b w 4
def z_plow (i : Int32) : FS → FS
  | (f, p, a, st, n, k) => z_prog i (z_at f i &&& (z_at f i - 1)) (f, p, a, st, n, k)
def z_wordN (f : RW) (b : Int32) : Nat → Int32
  | 0 => 0
  | i + 1 => (z_wordN f b i <<< (8 &&& 31)) ||| z_at f (b + nI i)
def z_word (f : RW) (b : Int32) : Int32 := z_wordN f b 4
def z_digB2 (x : Int32) : Int32 := ((x <<< (7 &&& 31)) ||| zushr x 25) + 97
def z_digB (d b : Int32) : Int32 := z_digB2 ((d ^^^ b) * 16777619)
def z_digN (f : RW) (b : Int32) : Nat → Int32
  | 0 => 0
  | i + 1 => z_digB (z_digN f b i) (z_at f (b + nI i))
def z_digO (f : RW) (b len : Int32) : Int32 := z_digN f b len.toNatClampNeg
def z_rdigN (d0 : Int32) (row : RW) : Nat → Int32
  | 0 => d0
  | i + 1 => z_digB (z_rdigN d0 row i) (row i)
def z_dig (d0 : Int32) (row : RW) (rl : Nat) (len : Int32) : Int32 := z_rdigN d0 row (min len.toNatClampNeg rl)
def z_isSeq (s : Int32) : Int32 := if s < 1 then 0 else if 200 < s then 0 else 1
def z_isLen (s : Int32) : Int32 := if s < 1 then 0 else if 192 < s then 0 else 1
def z_bc1 (x : Int32) : Int32 := x - (zushr x 1 &&& 1431655765)
def z_bc2 (x : Int32) : Int32 := (x &&& 858993459) + (zushr x 2 &&& 858993459)
def z_bc3 (x : Int32) : Int32 := (x + zushr x 4) &&& 252645135
def z_bc4 (x : Int32) : Int32 := x + zushr x 8
def z_bc5 (x : Int32) : Int32 := x + zushr x 16
def z_bc (x : Int32) : Int32 := z_bc5 (z_bc4 (z_bc3 (z_bc2 (z_bc1 x)))) &&& 63
theorem z_rem32 (k : Int32) : (k - k / 32 * 32).toNatClampNeg ≤ 31 := by
  have h1 : (k - k / 32 * 32) = k % 32 := by
    apply Int32.toInt_inj.mp
    rw [Int32.toInt_mod]
    rw [Int32.toInt_sub, Int32.toInt_mul, Int32.toInt_div]
    have h32 : (32 : Int32).toInt = 32 := rfl
    rw [h32]
    have hlo := Int32.le_toInt k
    have hhi := Int32.toInt_lt k
    have e1 := Int.tmod_add_mul_tdiv k.toInt 32
    have e2 : -32 < k.toInt.tmod 32 ∧ k.toInt.tmod 32 < 32 := tmod_bounds (by decide)
    have key : ∀ x : Int, -2147483648 ≤ x → x < 2147483648 → x.bmod (2 ^ 32) = x := fun x h1 h2 => Int.bmod_eq_of_le (by omega) (by omega)
    have e3 : 0 ≤ k.toInt → 0 ≤ k.toInt.tmod 32 := fun h => Int.tmod_nonneg 32 h
    have e4 : k.toInt ≤ 0 → k.toInt.tmod 32 ≤ 0 := fun h => by
      have h5 := Int.tmod_nonneg 32 (a := -k.toInt) (by omega)
      rw [Int.neg_tmod] at h5
      omega
    generalize k.toInt.tdiv 32 = q at *
    generalize k.toInt.tmod 32 = r at *
    rw [key q (by omega) (by omega), key (q * 32) (by omega) (by omega), key (k.toInt - q * 32) (by omega) (by omega)]
    omega
  rw [h1]
  unfold Int32.toNatClampNeg
  rw [Int32.toInt_mod]
  have h32 : (32 : Int32).toInt = 32 := rfl
  rw [h32]
  have e2 : -32 < k.toInt.tmod 32 ∧ k.toInt.tmod 32 < 32 := tmod_bounds (by decide)
  omega
theorem z_vp {i : Int32} {n : Nat} {m : Int32} (hm : m = nI n) (hn : n < 2 ^ 31) (h1 : ¬ i < 0) (h2 : i < m) : vp_in i n := by
  subst hm
  rw [vp_in_iff]
  rw [Int32.lt_iff_toInt_lt] at h1 h2
  rw [nI_toInt hn] at h2
  have h0 : (0 : Int32).toInt = 0 := rfl
  omega
theorem z_cntT {t k : Int32} (h : t = 0) : z_cnt t k = 32 := by rw [z_cnt, if_pos h]
theorem z_cntF {t k : Int32} (h : ¬ t = 0) : z_cnt t k = k - k / 32 * 32 := by rw [z_cnt, if_neg h]
section ZM
variable {p : Program} {l : Launch} {e : Env} {R : Room} {s : State} {m : MethodId} {args : Array Value} {below : List Frame} {meth : Method} {c : Code} {H : Heap} {locs : List Loc} {cells slots : Nat} {Q : State → Prop}
variable {cc : ByteArray} {pc : Nat} {ls : Array Slot} {rest : List Value}
theorem z_icmp_geC (hexec : p.tables.exec = Jvm.exec) (hb : c.code = cc) {x y : Int32} {off : Int} {tgt : Nat} (hdg : decode cc pc = .ok (.if_icmp .ge off, 3)) (ht : (pc : Int) + off = (tgt : Int)) (i : Nat) (hx : x = nI i) (hi : i < 2 ^ 31)
    (kt : y.toNatClampNeg ≤ i → W p l e R s m args below meth c H locs cells slots Q (F0 m tgt ls rest)) (kf : i < y.toNatClampNeg → W p l e R s m args below meth c H locs cells slots Q (F0 m (pc + 3) ls rest)) : W p l e R s m args below meth c H locs cells slots Q (F0 m pc ls (.int y :: .int x :: rest)) := by
  subst hx
  exact lv_icmp_ge hexec hb hdg ht (fun h => kt ((z_ge0 hi).mp h)) (fun h => kf (Nat.lt_of_not_le (fun q => h ((z_ge0 hi).mpr q))))
theorem z_icmp_eq (hexec : p.tables.exec = Jvm.exec) (hb : c.code = cc) {x y : Int32} {off : Int} {tgt : Nat} (hdg : decode cc pc = .ok (.if_icmp .eq off, 3)) (ht : (pc : Int) + off = (tgt : Int)) (i j : Nat) (hx : x = nI i) (hy : y = nI j) (hi : i < 2 ^ 31) (hj : j < 2 ^ 31)
    (kt : i = j → W p l e R s m args below meth c H locs cells slots Q (F0 m tgt ls rest)) (kf : ¬ i = j → W p l e R s m args below meth c H locs cells slots Q (F0 m (pc + 3) ls rest)) : W p l e R s m args below meth c H locs cells slots Q (F0 m pc ls (.int y :: .int x :: rest)) := by
  subst hx; subst hy
  exact lv_icmp_eq hexec hb hdg ht (fun h => kt ((nI_eq hi hj).mp h)) (fun h => kf (fun q => h ((nI_eq hi hj).mpr q)))
theorem z_icmp_ne (hexec : p.tables.exec = Jvm.exec) (hb : c.code = cc) {x y : Int32} {off : Int} {tgt : Nat} (hdg : decode cc pc = .ok (.if_icmp .ne off, 3)) (ht : (pc : Int) + off = (tgt : Int)) (i j : Nat) (hx : x = nI i) (hy : y = nI j) (hi : i < 2 ^ 31) (hj : j < 2 ^ 31)
    (kt : ¬ i = j → W p l e R s m args below meth c H locs cells slots Q (F0 m tgt ls rest)) (kf : i = j → W p l e R s m args below meth c H locs cells slots Q (F0 m (pc + 3) ls rest)) : W p l e R s m args below meth c H locs cells slots Q (F0 m pc ls (.int y :: .int x :: rest)) := by
  subst hx; subst hy
  exact lv_icmp_ne hexec hb hdg ht (fun h => kt (fun q => h ((nI_eq hi hj).mpr q))) (fun h => kf ((nI_eq hi hj).mp h))
theorem z_topR {x v : Nat} (hv : x = v) (k : W p l e R s m args below meth c H locs cells slots Q (F0 m pc ls (.ref v :: rest))) : W p l e R s m args below meth c H locs cells slots Q (F0 m pc ls (.ref x :: rest)) := by rw [hv]; exact k
end ZM
theorem z_clamp (x : Int32) : x.toNatClampNeg < 2 ^ 31 := by
  have h := Int32.toInt_lt x
  unfold Int32.toNatClampNeg
  omega
abbrev wF (cI : ClassId) (h q : Nat) (f : RW) (p : Int32) (a : Int32) (st : Int32) (n : Int32) (k : Int32) : va_W := [(h, .inr (0, [.ref q, .int p, .int a, .int st, .int n, .int k])), (q, .inl (cI, 768, .inl f))]
abbrev wFR (cI : ClassId) (h q r : Nat) (f : RW) (p : Int32) (a : Int32) (st : Int32) (n : Int32) (k : Int32) (row : RW) (rl : Nat) : va_W := [(h, .inr (0, [.ref q, .int p, .int a, .int st, .int n, .int k])), (q, .inl (cI, 768, .inl f)), (r, .inl (cI, rl, .inl row))]
abbrev wS (cI : ClassId) (g h q : Nat) (fp : Nat) (sd : Int32) (hd : Int32) (f : RW) (p : Int32) (a : Int32) (st : Int32) (n : Int32) (k : Int32) : va_W := [(g, .inr (3, [.int (nI fp), .int sd, .int hd])), (h, .inr (0, [.ref q, .int p, .int a, .int st, .int n, .int k])), (q, .inl (cI, 768, .inl f))]
abbrev wSR (cI : ClassId) (g h q r : Nat) (fp : Nat) (sd : Int32) (hd : Int32) (f : RW) (p : Int32) (a : Int32) (st : Int32) (n : Int32) (k : Int32) (row : RW) (rl : Nat) : va_W := [(g, .inr (3, [.int (nI fp), .int sd, .int hd])), (h, .inr (0, [.ref q, .int p, .int a, .int st, .int n, .int k])), (q, .inl (cI, 768, .inl f)), (r, .inl (cI, rl, .inl row))]
abbrev wM (cI : ClassId) (h q : Nat) (ob : RW) : va_W := [(h, .inr (1, [.ref q])), (q, .inl (cI, 20, .inl ob))]
abbrev wMF (cI : ClassId) (h q x y : Nat) (ob : RW) (f : RW) (p : Int32) (a : Int32) (st : Int32) (n : Int32) (k : Int32) : va_W := [(h, .inr (1, [.ref q])), (q, .inl (cI, 20, .inl ob)), (x, .inr (0, [.ref y, .int p, .int a, .int st, .int n, .int k])), (y, .inl (cI, 768, .inl f))]
abbrev wMT (cI : ClassId) (h q x y : Nat) (ob : RW) (tb : RW) (tl : Nat) : va_W := [(h, .inr (1, [.ref q])), (q, .inl (cI, 20, .inl ob)), (x, .inr (4, [.ref y, .int (nI tl)])), (y, .inl (cI, 192, .inl tb))]
abbrev wMK (cI : ClassId) (h q x : Nat) (ob : RW) (K : RW) : va_W := [(h, .inr (1, [.ref q])), (q, .inl (cI, 20, .inl ob)), (x, .inl (cI, 8, .inl K))]
abbrev wT (cI : ClassId) (h q : Nat) (tb : RW) (tl : Nat) : va_W := [(h, .inr (4, [.ref q, .int (nI tl)])), (q, .inl (cI, 192, .inl tb))]
abbrev wPF (cI : ClassId) (h q x y : Nat) (im : RW) (md : Nat) (f : RW) (p : Int32) (a : Int32) (st : Int32) (n : Int32) (k : Int32) : va_W := [(h, .inr (2, [.ref q, .int (nI md)])), (q, .inl (cI, 192, .inl im)), (x, .inr (0, [.ref y, .int p, .int a, .int st, .int n, .int k])), (y, .inl (cI, 768, .inl f))]
abbrev wR (cI : ClassId) (r : Nat) (row : RW) (rl : Nat) : va_W := [(r, .inl (cI, rl, .inl row))]
abbrev w0 (cI : ClassId)   : va_W := []
abbrev cW (cI : ClassId) (ad : Nat → Nat) (K : RW) (v : Int32) (f : RW) (p : Int32) (a : Int32) (st : Int32) (n : Int32) (k : Int32) (tb : RW) (tl : Nat) (ob : RW) (im : RW) (md : Nat) (rn : Int32) : va_W := [((ad 0), .inr (5, [.ref (ad 1), .int v, .ref (ad 2), .ref (ad 4), .ref (ad 6), .ref (ad 7), .ref (ad 8), .ref (ad 10), .int rn])), ((ad 1), .inl (cI, 8, .inl K)), ((ad 2), .inr (0, [.ref (ad 3), .int p, .int a, .int st, .int n, .int k])), ((ad 3), .inl (cI, 768, .inl f)), ((ad 4), .inr (4, [.ref (ad 5), .int (nI tl)])), ((ad 5), .inl (cI, 192, .inl tb)), ((ad 6), .inr (3, [.int 0, .int 0, .int 192])), ((ad 7), .inr (3, [.int 7, .int 224, .int 416])), ((ad 8), .inr (1, [.ref (ad 9)])), ((ad 9), .inl (cI, 20, .inl ob)), ((ad 10), .inr (2, [.ref (ad 11), .int (nI md)])), ((ad 11), .inl (cI, 192, .inl im))]
abbrev mW (cI : ClassId) (am : Nat → Nat) (ke : RW) (ve : Int32) (th : Int32) (f : RW) (tb : RW) (tl : Nat) (p : Int32) (r : Int32) (lf : Int32) (k : Int32) (a : Int32) (im : RW) (md : Nat) : va_W := [((am 0), .inr (6, [.int th, .ref (am 1), .ref (am 2), .int ve, .ref (am 3), .int (nI tl), .int p, .int r, .int lf, .int k, .int a, .ref (am 4), .int (nI md)])), ((am 1), .inl (cI, 768, .inl f)), ((am 2), .inl (cI, 8, .inl ke)), ((am 3), .inl (cI, 192, .inl tb)), ((am 4), .inl (cI, 192, .inl im))]
end
section
abbrev rm_X5_byteOfWord : Room := { frames := 0, cells := 0, slots := 0, locals := 0 }
set_option maxHeartbeats 4000000 in
set_option maxRecDepth 100000 in
theorem k_X5_byteOfWord (l : Launch) (D : va_G) (cI : ClassId)   (w : Int32) (i : Int32)  : zMR l D cI yX5_byteOfWord wsX5_byteOfWord rm_X5_byteOfWord [.int w, .int i] (w0 cI) (.int (z_bow w i)) := by
  refine zEntR (cc := cX5_byteOfWord) (maxL := 2) (ret := (some .int)) (own := RX5) (lvs := [(0, .int w), (1, .int i)]) (by decide) rfl rfl rfl rfl (Nat.le_of_ble_eq_true rfl) rfl ?_
  intro p0 e s m args below meth c Q ls hx hb hml hts hown hP hK hN hl hret hretA
  refine lv_iload_n hx hb dX5_byteOfWord_0 rfl (lv_at hl 0 rfl) ?_
  refine lv_bipush (v := 24) hx hb dX5_byteOfWord_1 (by decide) ?_
  refine lv_bipush (v := 8) hx hb dX5_byteOfWord_3 (by decide) ?_
  refine lv_iload_n hx hb dX5_byteOfWord_5 rfl (lv_at hl 1 rfl) ?_
  refine lv_imul hx hb dX5_byteOfWord_6 ?_
  refine lv_isub hx hb dX5_byteOfWord_7 ?_
  refine lv_iushr (v := zushr w (24 - (8 * i))) hx hb dX5_byteOfWord_8 rfl ?_
  refine lv_sipush (v := 255) hx hb dX5_byteOfWord_9 (by decide) ?_
  refine lv_iand hx hb dX5_byteOfWord_12 ?_
  exact hret 13 ls ((zushr w (24 - (8 * i))) &&& 255) _ dX5_byteOfWord_13 rfl rfl (congrArg Value.int (by rfl))
abbrev rm_X5_digestByte : Room := { frames := 0, cells := 0, slots := 0, locals := 0 }
set_option maxRecDepth 20000 in
theorem qX5_digestByte_1 : (Cond.constant RX5 293 (16777619) : Cond) ∈ wsX5_digestByte := List.mem_of_getElem? (i := 1) rfl
set_option maxHeartbeats 4000000 in
set_option maxRecDepth 100000 in
theorem k_X5_digestByte (l : Launch) (D : va_G) (cI : ClassId)   (x : Int32) (b : Int32)  : zMR l D cI yX5_digestByte wsX5_digestByte rm_X5_digestByte [.int x, .int b] (w0 cI) (.int (z_digB x b)) := by
  refine zEntR (cc := cX5_digestByte) (maxL := 3) (ret := (some .int)) (own := RX5) (lvs := [(0, .int x), (1, .int b)]) (by decide) rfl rfl rfl rfl (Nat.le_of_ble_eq_true rfl) rfl ?_
  intro p0 e s m args below meth c Q ls hx hb hml hts hown hP hK hN hl hret hretA
  refine lv_iload_n hx hb dX5_digestByte_0 rfl (lv_at hl 0 rfl) ?_
  refine lv_iload_n hx hb dX5_digestByte_1 rfl (lv_at hl 1 rfl) ?_
  refine lv_ixor hx hb dX5_digestByte_2 ?_
  refine lv_ldcw (v := 16777619) hx hb hown (hts _ qX5_digestByte_1) dX5_digestByte_3 ?_
  refine lv_imul hx hb dX5_digestByte_6 ?_
  refine lv_istore_n (lv' := [(2, .int ((x ^^^ b) * 16777619)), (0, .int x), (1, .int b)]) hx hb dX5_digestByte_7 rfl hl (by decide) rfl (fun ls hl => ?_)
  refine lv_iload_n hx hb dX5_digestByte_8 rfl (lv_at hl 0 rfl) ?_
  refine lv_bipush (v := 7) hx hb dX5_digestByte_9 (by decide) ?_
  refine lv_ishl hx hb dX5_digestByte_11 ?_
  refine lv_iload_n hx hb dX5_digestByte_12 rfl (lv_at hl 0 rfl) ?_
  refine lv_bipush (v := 25) hx hb dX5_digestByte_13 (by decide) ?_
  refine lv_iushr (v := zushr ((x ^^^ b) * 16777619) 25) hx hb dX5_digestByte_15 rfl ?_
  refine lv_ior hx hb dX5_digestByte_16 ?_
  refine lv_bipush (v := 97) hx hb dX5_digestByte_17 (by decide) ?_
  refine lv_iadd hx hb dX5_digestByte_19 ?_
  exact hret 20 ls (((((x ^^^ b) * 16777619) <<< (7 &&& 31)) ||| (zushr ((x ^^^ b) * 16777619) 25)) + 97) _ dX5_digestByte_20 rfl rfl (congrArg Value.int (by rfl))
abbrev rm_X5_isSequence : Room := { frames := 0, cells := 0, slots := 0, locals := 0 }
set_option maxHeartbeats 4000000 in
set_option maxRecDepth 100000 in
theorem k_X5_isSequence (l : Launch) (D : va_G) (cI : ClassId)   (x : Int32)  : zMR l D cI yX5_isSequence wsX5_isSequence rm_X5_isSequence [.int x] (w0 cI) (.int (z_isSeq x)) := by
  refine zEntR (cc := cX5_isSequence) (maxL := 1) (ret := (some .boolean)) (own := RX5) (lvs := [(0, .int x)]) (by decide) rfl rfl rfl rfl (Nat.le_of_ble_eq_true rfl) rfl ?_
  intro p0 e s m args below meth c Q ls hx hb hml hts hown hP hK hN hl hret hretA
  refine lv_iload_n hx hb dX5_isSequence_0 rfl (lv_at hl 0 rfl) ?_
  refine lv_iconst (v := 1) hx hb dX5_isSequence_1 (by decide) ?_
  refine lv_icmp_lt (tgt := 16) hx hb dX5_isSequence_2 (by decide) (fun c_2 => ?_) (fun c_2 => ?_)
  · -- 2 t
    refine lv_iconst (v := 0) hx hb dX5_isSequence_16 (by decide) ?_
    exact hret 17 ls 0 _ dX5_isSequence_17 rfl rfl (congrArg Value.int (by first | (simp only [z_isSeq, if_pos c_2]; done) | rfl))
  · -- 2 f
    refine lv_iload_n hx hb dX5_isSequence_5 rfl (lv_at hl 0 rfl) ?_
    refine lv_sipush (v := 200) hx hb dX5_isSequence_6 (by decide) ?_
    refine lv_icmp_gt (tgt := 16) hx hb dX5_isSequence_9 (by decide) (fun c_9 => ?_) (fun c_9 => ?_)
    · -- 9 t
      refine lv_iconst (v := 0) hx hb dX5_isSequence_16 (by decide) ?_
      exact hret 17 ls 0 _ dX5_isSequence_17 rfl rfl (congrArg Value.int (by first | (simp only [z_isSeq, if_neg c_2, if_pos c_9]; done) | rfl))
    · -- 9 f
      refine lv_iconst (v := 1) hx hb dX5_isSequence_12 (by decide) ?_
      refine lv_goto (tgt := 17) hx hb dX5_isSequence_13 (by decide) ?_
      exact hret 17 ls 1 _ dX5_isSequence_17 rfl rfl (congrArg Value.int (by first | (simp only [z_isSeq, if_neg c_2, if_neg c_9]; done) | rfl))
abbrev rm_X5_isLength : Room := { frames := 0, cells := 0, slots := 0, locals := 0 }
set_option maxHeartbeats 4000000 in
set_option maxRecDepth 100000 in
theorem k_X5_isLength (l : Launch) (D : va_G) (cI : ClassId)   (x : Int32)  : zMR l D cI yX5_isLength wsX5_isLength rm_X5_isLength [.int x] (w0 cI) (.int (z_isLen x)) := by
  refine zEntR (cc := cX5_isLength) (maxL := 1) (ret := (some .boolean)) (own := RX5) (lvs := [(0, .int x)]) (by decide) rfl rfl rfl rfl (Nat.le_of_ble_eq_true rfl) rfl ?_
  intro p0 e s m args below meth c Q ls hx hb hml hts hown hP hK hN hl hret hretA
  refine lv_iload_n hx hb dX5_isLength_0 rfl (lv_at hl 0 rfl) ?_
  refine lv_iconst (v := 1) hx hb dX5_isLength_1 (by decide) ?_
  refine lv_icmp_lt (tgt := 16) hx hb dX5_isLength_2 (by decide) (fun c_2 => ?_) (fun c_2 => ?_)
  · -- 2 t
    refine lv_iconst (v := 0) hx hb dX5_isLength_16 (by decide) ?_
    exact hret 17 ls 0 _ dX5_isLength_17 rfl rfl (congrArg Value.int (by first | (simp only [z_isLen, if_pos c_2]; done) | rfl))
  · -- 2 f
    refine lv_iload_n hx hb dX5_isLength_5 rfl (lv_at hl 0 rfl) ?_
    refine lv_sipush (v := 192) hx hb dX5_isLength_6 (by decide) ?_
    refine lv_icmp_gt (tgt := 16) hx hb dX5_isLength_9 (by decide) (fun c_9 => ?_) (fun c_9 => ?_)
    · -- 9 t
      refine lv_iconst (v := 0) hx hb dX5_isLength_16 (by decide) ?_
      exact hret 17 ls 0 _ dX5_isLength_17 rfl rfl (congrArg Value.int (by first | (simp only [z_isLen, if_neg c_2, if_pos c_9]; done) | rfl))
    · -- 9 f
      refine lv_iconst (v := 1) hx hb dX5_isLength_12 (by decide) ?_
      refine lv_goto (tgt := 17) hx hb dX5_isLength_13 (by decide) ?_
      exact hret 17 ls 1 _ dX5_isLength_17 rfl rfl (congrArg Value.int (by first | (simp only [z_isLen, if_neg c_2, if_neg c_9]; done) | rfl))
abbrev rm_J6_bitCount_0f7a4 : Room := { frames := 0, cells := 0, slots := 0, locals := 0 }
set_option maxRecDepth 20000 in
theorem qJ6_bitCount_0f7a4_1 : (Cond.constant RJ6 265 (1431655765) : Cond) ∈ wsJ6_bitCount_0f7a4 := List.mem_of_getElem? (i := 1) rfl
set_option maxRecDepth 20000 in
theorem qJ6_bitCount_0f7a4_2 : (Cond.constant RJ6 266 (858993459) : Cond) ∈ wsJ6_bitCount_0f7a4 := List.mem_of_getElem? (i := 2) rfl
set_option maxRecDepth 20000 in
theorem qJ6_bitCount_0f7a4_3 : (Cond.constant RJ6 267 (252645135) : Cond) ∈ wsJ6_bitCount_0f7a4 := List.mem_of_getElem? (i := 3) rfl
set_option maxHeartbeats 4000000 in
set_option maxRecDepth 100000 in
theorem k_J6_bitCount_0f7a4 (l : Launch) (D : va_G) (cI : ClassId)   (x : Int32)  : zMR l D cI yJ6_bitCount_0f7a4 wsJ6_bitCount_0f7a4 rm_J6_bitCount_0f7a4 [.int x] (w0 cI) (.int (z_bc x)) := by
  refine zEntR (cc := cJ6_bitCount_0f7a4) (maxL := 1) (ret := (some .int)) (own := RJ6) (lvs := [(0, .int x)]) (by decide) rfl rfl rfl rfl (Nat.le_of_ble_eq_true rfl) rfl ?_
  intro p0 e s m args below meth c Q ls hx hb hml hts hown hP hK hN hl hret hretA
  refine lv_iload_n hx hb dJ6_bitCount_0f7a4_0 rfl (lv_at hl 0 rfl) ?_
  refine lv_iload_n hx hb dJ6_bitCount_0f7a4_1 rfl (lv_at hl 0 rfl) ?_
  refine lv_iconst (v := 1) hx hb dJ6_bitCount_0f7a4_2 (by decide) ?_
  refine lv_iushr (v := zushr x 1) hx hb dJ6_bitCount_0f7a4_3 rfl ?_
  refine lv_ldcw (v := 1431655765) hx hb hown (hts _ qJ6_bitCount_0f7a4_1) dJ6_bitCount_0f7a4_4 ?_
  refine lv_iand hx hb dJ6_bitCount_0f7a4_7 ?_
  refine lv_isub hx hb dJ6_bitCount_0f7a4_8 ?_
  refine lv_istore_n (lv' := [(0, .int (x - ((zushr x 1) &&& 1431655765)))]) hx hb dJ6_bitCount_0f7a4_9 rfl hl (by decide) rfl (fun ls hl => ?_)
  refine lv_iload_n hx hb dJ6_bitCount_0f7a4_10 rfl (lv_at hl 0 rfl) ?_
  refine lv_ldcw (v := 858993459) hx hb hown (hts _ qJ6_bitCount_0f7a4_2) dJ6_bitCount_0f7a4_11 ?_
  refine lv_iand hx hb dJ6_bitCount_0f7a4_14 ?_
  refine lv_iload_n hx hb dJ6_bitCount_0f7a4_15 rfl (lv_at hl 0 rfl) ?_
  refine lv_iconst (v := 2) hx hb dJ6_bitCount_0f7a4_16 (by decide) ?_
  refine lv_iushr (v := zushr (x - ((zushr x 1) &&& 1431655765)) 2) hx hb dJ6_bitCount_0f7a4_17 rfl ?_
  refine lv_ldcw (v := 858993459) hx hb hown (hts _ qJ6_bitCount_0f7a4_2) dJ6_bitCount_0f7a4_18 ?_
  refine lv_iand hx hb dJ6_bitCount_0f7a4_21 ?_
  refine lv_iadd hx hb dJ6_bitCount_0f7a4_22 ?_
  refine lv_istore_n (lv' := [(0, .int (((x - ((zushr x 1) &&& 1431655765)) &&& 858993459) + ((zushr (x - ((zushr x 1) &&& 1431655765)) 2) &&& 858993459)))]) hx hb dJ6_bitCount_0f7a4_23 rfl hl (by decide) rfl (fun ls hl => ?_)
  refine lv_iload_n hx hb dJ6_bitCount_0f7a4_24 rfl (lv_at hl 0 rfl) ?_
  refine lv_iload_n hx hb dJ6_bitCount_0f7a4_25 rfl (lv_at hl 0 rfl) ?_
  refine lv_iconst (v := 4) hx hb dJ6_bitCount_0f7a4_26 (by decide) ?_
  refine lv_iushr (v := zushr (((x - ((zushr x 1) &&& 1431655765)) &&& 858993459) + ((zushr (x - ((zushr x 1) &&& 1431655765)) 2) &&& 858993459)) 4) hx hb dJ6_bitCount_0f7a4_27 rfl ?_
  refine lv_iadd hx hb dJ6_bitCount_0f7a4_28 ?_
  refine lv_ldcw (v := 252645135) hx hb hown (hts _ qJ6_bitCount_0f7a4_3) dJ6_bitCount_0f7a4_29 ?_
  refine lv_iand hx hb dJ6_bitCount_0f7a4_32 ?_
  refine lv_istore_n (lv' := [(0, .int (((((x - ((zushr x 1) &&& 1431655765)) &&& 858993459) + ((zushr (x - ((zushr x 1) &&& 1431655765)) 2) &&& 858993459)) + (zushr (((x - ((zushr x 1) &&& 1431655765)) &&& 858993459) + ((zushr (x - ((zushr x 1) &&& 1431655765)) 2) &&& 858993459)) 4)) &&& 252645135))]) hx hb dJ6_bitCount_0f7a4_33 rfl hl (by decide) rfl (fun ls hl => ?_)
  refine lv_iload_n hx hb dJ6_bitCount_0f7a4_34 rfl (lv_at hl 0 rfl) ?_
  refine lv_iload_n hx hb dJ6_bitCount_0f7a4_35 rfl (lv_at hl 0 rfl) ?_
  refine lv_bipush (v := 8) hx hb dJ6_bitCount_0f7a4_36 (by decide) ?_
  refine lv_iushr (v := zushr (((((x - ((zushr x 1) &&& 1431655765)) &&& 858993459) + ((zushr (x - ((zushr x 1) &&& 1431655765)) 2) &&& 858993459)) + (zushr (((x - ((zushr x 1) &&& 1431655765)) &&& 858993459) + ((zushr (x - ((zushr x 1) &&& 1431655765)) 2) &&& 858993459)) 4)) &&& 252645135) 8) hx hb dJ6_bitCount_0f7a4_38 rfl ?_
  refine lv_iadd hx hb dJ6_bitCount_0f7a4_39 ?_
  refine lv_istore_n (lv' := [(0, .int ((((((x - ((zushr x 1) &&& 1431655765)) &&& 858993459) + ((zushr (x - ((zushr x 1) &&& 1431655765)) 2) &&& 858993459)) + (zushr (((x - ((zushr x 1) &&& 1431655765)) &&& 858993459) + ((zushr (x - ((zushr x 1) &&& 1431655765)) 2) &&& 858993459)) 4)) &&& 252645135) + (zushr (((((x - ((zushr x 1) &&& 1431655765)) &&& 858993459) + ((zushr (x - ((zushr x 1) &&& 1431655765)) 2) &&& 858993459)) + (zushr (((x - ((zushr x 1) &&& 1431655765)) &&& 858993459) + ((zushr (x - ((zushr x 1) &&& 1431655765)) 2) &&& 858993459)) 4)) &&& 252645135) 8)))]) hx hb dJ6_bitCount_0f7a4_40 rfl hl (by decide) rfl (fun ls hl => ?_)
  refine lv_iload_n hx hb dJ6_bitCount_0f7a4_41 rfl (lv_at hl 0 rfl) ?_
  refine lv_iload_n hx hb dJ6_bitCount_0f7a4_42 rfl (lv_at hl 0 rfl) ?_
  refine lv_bipush (v := 16) hx hb dJ6_bitCount_0f7a4_43 (by decide) ?_
  refine lv_iushr (v := zushr ((((((x - ((zushr x 1) &&& 1431655765)) &&& 858993459) + ((zushr (x - ((zushr x 1) &&& 1431655765)) 2) &&& 858993459)) + (zushr (((x - ((zushr x 1) &&& 1431655765)) &&& 858993459) + ((zushr (x - ((zushr x 1) &&& 1431655765)) 2) &&& 858993459)) 4)) &&& 252645135) + (zushr (((((x - ((zushr x 1) &&& 1431655765)) &&& 858993459) + ((zushr (x - ((zushr x 1) &&& 1431655765)) 2) &&& 858993459)) + (zushr (((x - ((zushr x 1) &&& 1431655765)) &&& 858993459) + ((zushr (x - ((zushr x 1) &&& 1431655765)) 2) &&& 858993459)) 4)) &&& 252645135) 8)) 16) hx hb dJ6_bitCount_0f7a4_45 rfl ?_
  refine lv_iadd hx hb dJ6_bitCount_0f7a4_46 ?_
  refine lv_istore_n (lv' := [(0, .int (((((((x - ((zushr x 1) &&& 1431655765)) &&& 858993459) + ((zushr (x - ((zushr x 1) &&& 1431655765)) 2) &&& 858993459)) + (zushr (((x - ((zushr x 1) &&& 1431655765)) &&& 858993459) + ((zushr (x - ((zushr x 1) &&& 1431655765)) 2) &&& 858993459)) 4)) &&& 252645135) + (zushr (((((x - ((zushr x 1) &&& 1431655765)) &&& 858993459) + ((zushr (x - ((zushr x 1) &&& 1431655765)) 2) &&& 858993459)) + (zushr (((x - ((zushr x 1) &&& 1431655765)) &&& 858993459) + ((zushr (x - ((zushr x 1) &&& 1431655765)) 2) &&& 858993459)) 4)) &&& 252645135) 8)) + (zushr ((((((x - ((zushr x 1) &&& 1431655765)) &&& 858993459) + ((zushr (x - ((zushr x 1) &&& 1431655765)) 2) &&& 858993459)) + (zushr (((x - ((zushr x 1) &&& 1431655765)) &&& 858993459) + ((zushr (x - ((zushr x 1) &&& 1431655765)) 2) &&& 858993459)) 4)) &&& 252645135) + (zushr (((((x - ((zushr x 1) &&& 1431655765)) &&& 858993459) + ((zushr (x - ((zushr x 1) &&& 1431655765)) 2) &&& 858993459)) + (zushr (((x - ((zushr x 1) &&& 1431655765)) &&& 858993459) + ((zushr (x - ((zushr x 1) &&& 1431655765)) 2) &&& 858993459)) 4)) &&& 252645135) 8)) 16)))]) hx hb dJ6_bitCount_0f7a4_47 rfl hl (by decide) rfl (fun ls hl => ?_)
  refine lv_iload_n hx hb dJ6_bitCount_0f7a4_48 rfl (lv_at hl 0 rfl) ?_
  refine lv_bipush (v := 63) hx hb dJ6_bitCount_0f7a4_49 (by decide) ?_
  refine lv_iand hx hb dJ6_bitCount_0f7a4_51 ?_
  exact hret 52 ls ((((((((x - ((zushr x 1) &&& 1431655765)) &&& 858993459) + ((zushr (x - ((zushr x 1) &&& 1431655765)) 2) &&& 858993459)) + (zushr (((x - ((zushr x 1) &&& 1431655765)) &&& 858993459) + ((zushr (x - ((zushr x 1) &&& 1431655765)) 2) &&& 858993459)) 4)) &&& 252645135) + (zushr (((((x - ((zushr x 1) &&& 1431655765)) &&& 858993459) + ((zushr (x - ((zushr x 1) &&& 1431655765)) 2) &&& 858993459)) + (zushr (((x - ((zushr x 1) &&& 1431655765)) &&& 858993459) + ((zushr (x - ((zushr x 1) &&& 1431655765)) 2) &&& 858993459)) 4)) &&& 252645135) 8)) + (zushr ((((((x - ((zushr x 1) &&& 1431655765)) &&& 858993459) + ((zushr (x - ((zushr x 1) &&& 1431655765)) 2) &&& 858993459)) + (zushr (((x - ((zushr x 1) &&& 1431655765)) &&& 858993459) + ((zushr (x - ((zushr x 1) &&& 1431655765)) 2) &&& 858993459)) 4)) &&& 252645135) + (zushr (((((x - ((zushr x 1) &&& 1431655765)) &&& 858993459) + ((zushr (x - ((zushr x 1) &&& 1431655765)) 2) &&& 858993459)) + (zushr (((x - ((zushr x 1) &&& 1431655765)) &&& 858993459) + ((zushr (x - ((zushr x 1) &&& 1431655765)) 2) &&& 858993459)) 4)) &&& 252645135) 8)) 16)) &&& 63) _ dJ6_bitCount_0f7a4_52 rfl rfl (congrArg Value.int (by rfl))
abbrev rm_X5_digest : Room := { frames := 1, cells := 0, slots := 0, locals := 22 }
set_option maxHeartbeats 4000000 in
set_option maxRecDepth 100000 in
theorem k_X5_digest (l : Launch) (D : va_G) (cI : ClassId) (r : Nat) (row : RW) (rl : Nat) (d0 : Int32) (len : Int32) (hrl : rl < 2 ^ 31) : zMR l D cI yX5_digest wsX5_digest rm_X5_digest [.int d0, .ref r, .int len] (wR cI r row rl) (.int (z_dig d0 row rl len)) := by
  refine zEntR (cc := cX5_digest) (maxL := 5) (ret := (some .int)) (own := RX5) (lvs := [(0, .int d0), (1, .ref r), (2, .int len)]) (by decide) rfl rfl rfl rfl (Nat.le_of_ble_eq_true rfl) rfl ?_
  intro p0 e s m args below meth c Q ls hx hb hml hts hown hP hK hN hl hret hretA
  refine lv_iload_n hx hb dX5_digest_0 rfl (lv_at hl 0 rfl) ?_
  refine lv_istore_n (lv' := [(3, .int d0), (0, .int d0), (1, .ref r), (2, .int len)]) hx hb dX5_digest_1 rfl hl (by decide) rfl (fun ls hl => ?_)
  refine lv_iconst (v := 0) hx hb dX5_digest_2 (by decide) ?_
  refine lv_istore (lv' := [(4, .int 0), (3, .int d0), (0, .int d0), (1, .ref r), (2, .int len)]) hx hb dX5_digest_3 hl (by decide) rfl (fun ls hl => ?_)
  have lp_5 : ∀ (g_5 : Nat) (i : Nat) (ls : Array Slot), i ≤ rl → i ≤ len.toNatClampNeg → rl - i < g_5 → lv_has ls 5 [(0, .int d0), (1, .ref r), (2, .int len), (3, .int (z_rdigN d0 row i)), (4, .int (nI i))] → W p0 l e rm_X5_digest s m args below meth c s.heap [] 0 0 Q (F0 m 5 ls []) := by
    intro g_5
    induction g_5 with
    | zero => intro i ls h1 h2 h9_5; exact absurd h9_5 (Nat.not_lt_zero _)
    | succ g_5 ih_5 =>
      intro i ls h1 h2 h9_5 hl
      refine lv_iload hx hb dX5_digest_5 (lv_at hl 4 rfl) ?_
      refine lv_iload_n hx hb dX5_digest_7 rfl (lv_at hl 2 rfl) ?_
      refine z_icmp_geC (tgt := 33) hx hb dX5_digest_8 (by decide) i rfl (by omega) (fun c_8 => ?_) (fun c_8 => ?_)
      · -- 8 t
        refine lv_iload_n hx hb dX5_digest_33 rfl (lv_at hl 3 rfl) ?_
        exact hret 34 ls (z_rdigN d0 row i) _ dX5_digest_34 rfl rfl (congrArg Value.int (by rw [z_dig, show min len.toNatClampNeg rl = i by omega]))
      · -- 8 f
        refine lv_iload hx hb dX5_digest_11 (lv_at hl 4 rfl) ?_
        refine lv_aload_n hx hb dX5_digest_13 rfl (lv_at hl 1 rfl) ?_
        refine va_alen (v := nI rl) hx hb hK hP 0 0 rfl (ty := .int) rfl rfl dX5_digest_14 ?_
        refine z_icmp_ge (tgt := 33) hx hb dX5_digest_15 (by decide) i rl rfl rfl (by omega) (by omega) (fun c_15 => ?_) (fun c_15 => ?_)
        · -- 15 t
          refine lv_iload_n hx hb dX5_digest_33 rfl (lv_at hl 3 rfl) ?_
          exact hret 34 ls (z_rdigN d0 row i) _ dX5_digest_34 rfl rfl (congrArg Value.int (by rw [z_dig, show min len.toNatClampNeg rl = i by omega]))
        · -- 15 f
          refine lv_iload_n hx hb dX5_digest_18 rfl (lv_at hl 3 rfl) ?_
          refine lv_aload_n hx hb dX5_digest_19 rfl (lv_at hl 1 rfl) ?_
          refine lv_iload hx hb dX5_digest_20 (lv_at hl 4 rfl) ?_
          refine z_iald hx hb hK hP 0 0 rfl rfl i rfl (by omega) (by omega) dX5_digest_22 ?_
          refine zSR (As := [.int (z_rdigN d0 row i), .int (row i)]) (rest := []) ⟨hx, hb, hml, hown, hts⟩ (k_X5_digestByte l D cI (z_rdigN d0 row i) (row i)) (va_cwS 2 hts gX5_digest_X5_digestByte rfl rfl rfl (by decide +kernel) ⟨Nat.le_of_ble_eq_true rfl, Nat.le_of_ble_eq_true rfl⟩) hP hK hN [] rfl rfl hl.1 rfl (Nat.le_of_ble_eq_true rfl) dX5_digest_23 ⟨Nat.zero_le _, Nat.zero_le _⟩ ?_
          refine lv_istore_n (lv' := [(3, .int (z_digB (z_rdigN d0 row i) (row i))), (0, .int d0), (1, .ref r), (2, .int len), (4, .int (nI i))]) hx hb dX5_digest_26 rfl hl (by decide) rfl (fun ls hl => ?_)
          refine lv_iinc (v := (nI (i + 1))) (lv' := [(4, .int (nI (i + 1))), (3, .int (z_digB (z_rdigN d0 row i) (row i))), (0, .int d0), (1, .ref r), (2, .int len)]) hx hb dX5_digest_27 hl (k := 4) rfl (z_inc _ _ rfl) (by decide) rfl (fun ls hl => ?_)
          refine lv_goto (tgt := 5) hx hb dX5_digest_30 (by decide) ?_
          exact ih_5 (i + 1) _ (by omega) (by omega) (by omega) (lv_sub hl [2, 3, 4, 1, 0] rfl)
  exact lp_5 _ 0 _ (Nat.zero_le _) (Nat.zero_le _) (Nat.lt_succ_self _) (lv_sub hl [2, 3, 4, 1, 0] rfl)
abbrev rm_X0_at : Room := { frames := 0, cells := 0, slots := 0, locals := 0 }
set_option maxRecDepth 20000 in
theorem qX0_at_1 : (Cond.fieldLink RX0 11 "FlashBoot$Flash" "bytes" "[I" : Cond) ∈ wsX0_at := List.mem_of_getElem? (i := 1) rfl
set_option maxRecDepth 20000 in
theorem iX0_at_X0 : ∀ w ∈ wsX00, w ∈ wsX0_at := by decide +kernel
set_option maxHeartbeats 4000000 in
set_option maxRecDepth 100000 in
theorem k_X0_at (l : Launch) (D : va_G) (cI : ClassId) (h q : Nat) (f : RW) (p : Int32) (a : Int32) (st : Int32) (n : Int32) (k : Int32) (i : Int32)  : zMR l D cI yX0_at wsX0_at rm_X0_at [.ref h, .int i] (wF cI h q f p a st n k) (.int (z_at f i)) := by
  refine zEntR (cc := cX0_at) (maxL := 2) (ret := (some .int)) (own := RX0) (lvs := [(0, .ref h), (1, .int i)]) (by decide) rfl rfl rfl rfl (Nat.le_of_ble_eq_true rfl) rfl ?_
  intro p0 e s m args below meth c Q ls hx hb hml hts hown hP hK hN hl hret hretA
  refine lv_iload_n hx hb dX0_at_0 rfl (lv_at hl 1 rfl) ?_
  refine lv_if_lt (tgt := 20) hx hb dX0_at_1 (by decide) (fun c_1 => ?_) (fun c_1 => ?_)
  · -- 1 t
    refine lv_iconst (v := (-1)) hx hb dX0_at_20 (by decide) ?_
    exact hret 21 ls (-1) _ dX0_at_21 rfl rfl (congrArg Value.int (by first | (simp only [z_at, if_pos c_1]; done) | rfl))
  · -- 1 f
    refine lv_iload_n hx hb dX0_at_4 rfl (lv_at hl 1 rfl) ?_
    refine lv_sipush (v := 768) hx hb dX0_at_5 (by decide) ?_
    refine lv_icmp_ge (tgt := 20) hx hb dX0_at_8 (by decide) (fun c_8 => ?_) (fun c_8 => ?_)
    · -- 8 t
      refine lv_iconst (v := (-1)) hx hb dX0_at_20 (by decide) ?_
      exact hret 21 ls (-1) _ dX0_at_21 rfl rfl (congrArg Value.int (by first | (simp only [z_at, if_neg c_1, if_pos c_8]; done) | rfl))
    · -- 8 f
      refine lv_aload_n hx hb dX0_at_11 rfl (lv_at hl 0 rfl) ?_
      refine va_get (D := D) (ci := 0) (v := .ref q) (C := RX0) (T := TX0) (N := 6) hx hb hts iX0_at_X0 hown hK hP 0 rfl rfl 0 (by decide) (hts _ qX0_at_1) (fun _ h9 => h9) rfl dX0_at_12 ?_
      refine lv_iload_n hx hb dX0_at_15 rfl (lv_at hl 1 rfl) ?_
      refine va_iald hx hb hK hP 1 0 rfl rfl (z_vp (m := 768) rfl (by decide) c_1 (Int32.not_le.mp c_8)) dX0_at_16 ?_
      refine lv_goto (tgt := 21) hx hb dX0_at_17 (by decide) ?_
      exact hret 21 ls (f (i).toNatClampNeg) _ dX0_at_21 rfl rfl (congrArg Value.int (by first | (simp only [z_at, if_neg c_1, if_neg c_8]; done) | rfl))
abbrev rm_X0_tearNextAct : Room := { frames := 0, cells := 0, slots := 0, locals := 0 }
set_option maxRecDepth 20000 in
theorem qX0_tearNextAct_1 : (Cond.fieldLink RX0 19 "FlashBoot$Flash" "actsDone" "I" : Cond) ∈ wsX0_tearNextAct := List.mem_of_getElem? (i := 1) rfl
set_option maxRecDepth 20000 in
theorem iX0_tearNextAct_X0 : ∀ w ∈ wsX00, w ∈ wsX0_tearNextAct := by decide +kernel
set_option maxRecDepth 20000 in
theorem qX0_tearNextAct_2 : (Cond.fieldLink RX0 23 "FlashBoot$Flash" "crashIsSet" "Z" : Cond) ∈ wsX0_tearNextAct := List.mem_of_getElem? (i := 2) rfl
set_option maxRecDepth 20000 in
theorem qX0_tearNextAct_3 : (Cond.fieldLink RX0 26 "FlashBoot$Flash" "actsToCrash" "I" : Cond) ∈ wsX0_tearNextAct := List.mem_of_getElem? (i := 3) rfl
set_option maxRecDepth 20000 in
theorem qX0_tearNextAct_4 : (Cond.fieldLink RX0 15 "FlashBoot$Flash" "power" "Z" : Cond) ∈ wsX0_tearNextAct := List.mem_of_getElem? (i := 4) rfl
set_option maxHeartbeats 4000000 in
set_option maxRecDepth 100000 in
theorem k_X0_tearNextAct (l : Launch) (D : va_G) (cI : ClassId) (h q : Nat) (f : RW) (p : Int32) (a : Int32) (st : Int32) (n : Int32) (k : Int32)   : zMW (S := Int32 × RW × Int32 × Int32 × Int32 × Int32 × Int32) l D cI yX0_tearNextAct wsX0_tearNextAct rm_X0_tearNextAct [.ref h] (wF cI h q f p a st n k) (z_tear (f, p, a, st, n, k)) (fun u => some (.int u.1)) (fun u => wF cI h q u.2.1 u.2.2.1 u.2.2.2.1 u.2.2.2.2.1 u.2.2.2.2.2.1 u.2.2.2.2.2.2) := by
  refine zEntW (cc := cX0_tearNextAct) (maxL := 1) (ret := (some .boolean)) (own := RX0) (lvs := [(0, .ref h)]) (by decide) rfl rfl (Nat.le_of_ble_eq_true rfl) rfl ?_
  intro p0 e s m args below meth c Q ls A hx hb hml hts hown hP hK hN hD hS hA hl hret hretV
  refine lv_aload_n hx hb dX0_tearNextAct_0 rfl (lv_at hl 0 rfl) ?_
  refine lv_dup hx hb dX0_tearNextAct_1 rfl ?_
  refine va_get (D := D) (ci := 0) (v := .int a) (C := RX0) (T := TX0) (N := 6) hx hb hts iX0_tearNextAct_X0 hown hK hP 0 rfl rfl 2 (by decide) (hts _ qX0_tearNextAct_1) (fun _ h9 => h9) rfl dX0_tearNextAct_2 ?_
  refine lv_iconst (v := 1) hx hb dX0_tearNextAct_5 (by decide) ?_
  refine lv_iadd hx hb dX0_tearNextAct_6 ?_
  refine va_put (D := D) (ci := 0) (v := .int (a + 1)) (ty := .int) (C := RX0) (T := TX0) (N := 6) hx hb hts iX0_tearNextAct_X0 tyX0 tyX0_ok nmX0 hown hK hP hD hS 0 rfl rfl 2 (by decide) (hts _ qX0_tearNextAct_1) (fun _ h9 => h9) rfl (by decide +kernel) rfl rfl (Nat.le_of_ble_eq_true rfl) dX0_tearNextAct_7 (fun H locs hP hD hS => ?_)
  have hP : va_P D vwCl (wF cI h q f p (a + 1) st n k) _ := hP
  have hD : va_D A (wF cI h q f p (a + 1) st n k) := hD
  refine lv_aload_n hx hb dX0_tearNextAct_10 rfl (lv_at hl 0 rfl) ?_
  refine va_get (D := D) (ci := 0) (v := .int st) (C := RX0) (T := TX0) (N := 6) hx hb hts iX0_tearNextAct_X0 hown hK hP 0 rfl rfl 3 (by decide) (hts _ qX0_tearNextAct_2) (fun _ h9 => h9) rfl dX0_tearNextAct_11 ?_
  refine lv_if_ne (tgt := 19) hx hb dX0_tearNextAct_14 (by decide) (fun c_14 => ?_) (fun c_14 => ?_)
  · -- 14 t
    refine lv_aload_n hx hb dX0_tearNextAct_19 rfl (lv_at hl 0 rfl) ?_
    refine va_get (D := D) (ci := 0) (v := .int n) (C := RX0) (T := TX0) (N := 6) hx hb hts iX0_tearNextAct_X0 hown hK hP 0 rfl rfl 4 (by decide) (hts _ qX0_tearNextAct_3) (fun _ h9 => h9) rfl dX0_tearNextAct_20 ?_
    refine lv_if_le (tgt := 38) hx hb dX0_tearNextAct_23 (by decide) (fun c_23 => ?_) (fun c_23 => ?_)
    · -- 23 t
      refine lv_aload_n hx hb dX0_tearNextAct_38 rfl (lv_at hl 0 rfl) ?_
      refine lv_iconst (v := 0) hx hb dX0_tearNextAct_39 (by decide) ?_
      refine va_put (D := D) (ci := 0) (v := .int 0) (ty := .boolean) (C := RX0) (T := TX0) (N := 6) hx hb hts iX0_tearNextAct_X0 tyX0 tyX0_ok nmX0 hown hK hP hD hS 0 rfl rfl 3 (by decide) (hts _ qX0_tearNextAct_2) (fun _ h9 => h9) rfl (by decide +kernel) rfl rfl (Nat.le_of_ble_eq_true rfl) dX0_tearNextAct_40 (fun H locs hP hD hS => ?_)
      have hP : va_P D vwCl (wF cI h q f p (a + 1) 0 n k) _ := hP
      have hD : va_D A (wF cI h q f p (a + 1) 0 n k) := hD
      refine lv_aload_n hx hb dX0_tearNextAct_43 rfl (lv_at hl 0 rfl) ?_
      refine lv_iconst (v := 0) hx hb dX0_tearNextAct_44 (by decide) ?_
      refine va_put (D := D) (ci := 0) (v := .int 0) (ty := .boolean) (C := RX0) (T := TX0) (N := 6) hx hb hts iX0_tearNextAct_X0 tyX0 tyX0_ok nmX0 hown hK hP hD hS 0 rfl rfl 1 (by decide) (hts _ qX0_tearNextAct_4) (fun _ h9 => h9) rfl (by decide +kernel) rfl rfl (Nat.le_of_ble_eq_true rfl) dX0_tearNextAct_45 (fun H locs hP hD hS => ?_)
      have hP : va_P D vwCl (wF cI h q f 0 (a + 1) 0 n k) _ := hP
      have hD : va_D A (wF cI h q f 0 (a + 1) 0 n k) := hD
      refine lv_iconst (v := 1) hx hb dX0_tearNextAct_48 (by decide) ?_
      exact hret 49 ls _ _ (1, f, 0, a + 1, 0, n, k) 1 _ dX0_tearNextAct_49 rfl rfl rfl (by first | (simp only [z_tear, if_neg c_14, if_pos c_23]; done) | rfl) hP hS
    · -- 23 f
      refine lv_aload_n hx hb dX0_tearNextAct_26 rfl (lv_at hl 0 rfl) ?_
      refine lv_dup hx hb dX0_tearNextAct_27 rfl ?_
      refine va_get (D := D) (ci := 0) (v := .int n) (C := RX0) (T := TX0) (N := 6) hx hb hts iX0_tearNextAct_X0 hown hK hP 0 rfl rfl 4 (by decide) (hts _ qX0_tearNextAct_3) (fun _ h9 => h9) rfl dX0_tearNextAct_28 ?_
      refine lv_iconst (v := 1) hx hb dX0_tearNextAct_31 (by decide) ?_
      refine lv_isub hx hb dX0_tearNextAct_32 ?_
      refine va_put (D := D) (ci := 0) (v := .int (n - 1)) (ty := .int) (C := RX0) (T := TX0) (N := 6) hx hb hts iX0_tearNextAct_X0 tyX0 tyX0_ok nmX0 hown hK hP hD hS 0 rfl rfl 4 (by decide) (hts _ qX0_tearNextAct_3) (fun _ h9 => h9) rfl (by decide +kernel) rfl rfl (Nat.le_of_ble_eq_true rfl) dX0_tearNextAct_33 (fun H locs hP hD hS => ?_)
      have hP : va_P D vwCl (wF cI h q f p (a + 1) st (n - 1) k) _ := hP
      have hD : va_D A (wF cI h q f p (a + 1) st (n - 1) k) := hD
      refine lv_iconst (v := 0) hx hb dX0_tearNextAct_36 (by decide) ?_
      exact hret 37 ls _ _ (0, f, p, a + 1, st, n - 1, k) 0 _ dX0_tearNextAct_37 rfl rfl rfl (by first | (simp only [z_tear, if_neg c_14, if_neg c_23]; done) | rfl) hP hS
  · -- 14 f
    refine lv_iconst (v := 0) hx hb dX0_tearNextAct_17 (by decide) ?_
    exact hret 18 ls _ _ (0, f, p, a + 1, st, n, k) 0 _ dX0_tearNextAct_18 rfl rfl rfl (by first | (simp only [z_tear, if_pos c_14]; done) | rfl) hP hS
abbrev rm_X0_setCrash : Room := { frames := 0, cells := 0, slots := 0, locals := 0 }
set_option maxRecDepth 20000 in
theorem qX0_setCrash_1 : (Cond.fieldLink RX0 23 "FlashBoot$Flash" "crashIsSet" "Z" : Cond) ∈ wsX0_setCrash := List.mem_of_getElem? (i := 1) rfl
set_option maxRecDepth 20000 in
theorem iX0_setCrash_X0 : ∀ w ∈ wsX00, w ∈ wsX0_setCrash := by decide +kernel
set_option maxRecDepth 20000 in
theorem qX0_setCrash_2 : (Cond.fieldLink RX0 26 "FlashBoot$Flash" "actsToCrash" "I" : Cond) ∈ wsX0_setCrash := List.mem_of_getElem? (i := 2) rfl
set_option maxRecDepth 20000 in
theorem qX0_setCrash_3 : (Cond.fieldLink RX0 29 "FlashBoot$Flash" "crashMask" "I" : Cond) ∈ wsX0_setCrash := List.mem_of_getElem? (i := 3) rfl
set_option maxHeartbeats 4000000 in
set_option maxRecDepth 100000 in
theorem k_X0_setCrash (l : Launch) (D : va_G) (cI : ClassId) (h q : Nat) (f : RW) (p : Int32) (a : Int32) (st : Int32) (n : Int32) (k : Int32) (x : Int32) (y : Int32)  : zMW (S := RW × Int32 × Int32 × Int32 × Int32 × Int32) l D cI yX0_setCrash wsX0_setCrash rm_X0_setCrash [.ref h, .int x, .int y] (wF cI h q f p a st n k) (z_set x y (f, p, a, st, n, k)) (fun _ => none) (fun u => wF cI h q u.1 u.2.1 u.2.2.1 u.2.2.2.1 u.2.2.2.2.1 u.2.2.2.2.2) := by
  refine zEntW (cc := cX0_setCrash) (maxL := 3) (ret := none) (own := RX0) (lvs := [(0, .ref h), (1, .int x), (2, .int y)]) (by decide) rfl rfl (Nat.le_of_ble_eq_true rfl) rfl ?_
  intro p0 e s m args below meth c Q ls A hx hb hml hts hown hP hK hN hD hS hA hl hret hretV
  refine lv_aload_n hx hb dX0_setCrash_0 rfl (lv_at hl 0 rfl) ?_
  refine lv_iload_n hx hb dX0_setCrash_1 rfl (lv_at hl 1 rfl) ?_
  refine lv_if_lt (tgt := 9) hx hb dX0_setCrash_2 (by decide) (fun c_2 => ?_) (fun c_2 => ?_)
  · -- 2 t
    refine lv_iconst (v := 0) hx hb dX0_setCrash_9 (by decide) ?_
    refine va_put (D := D) (ci := 0) (v := .int 0) (ty := .boolean) (C := RX0) (T := TX0) (N := 6) hx hb hts iX0_setCrash_X0 tyX0 tyX0_ok nmX0 hown hK hP hD hS 0 rfl rfl 3 (by decide) (hts _ qX0_setCrash_1) (fun _ h9 => h9) rfl (by decide +kernel) rfl rfl (Nat.le_of_ble_eq_true rfl) dX0_setCrash_10 (fun H locs hP hD hS => ?_)
    have hP : va_P D vwCl (wF cI h q f p a 0 n k) _ := hP
    have hD : va_D A (wF cI h q f p a 0 n k) := hD
    refine lv_aload_n hx hb dX0_setCrash_13 rfl (lv_at hl 0 rfl) ?_
    refine lv_iload_n hx hb dX0_setCrash_14 rfl (lv_at hl 1 rfl) ?_
    refine va_put (D := D) (ci := 0) (v := .int x) (ty := .int) (C := RX0) (T := TX0) (N := 6) hx hb hts iX0_setCrash_X0 tyX0 tyX0_ok nmX0 hown hK hP hD hS 0 rfl rfl 4 (by decide) (hts _ qX0_setCrash_2) (fun _ h9 => h9) rfl (by decide +kernel) rfl rfl (Nat.le_of_ble_eq_true rfl) dX0_setCrash_15 (fun H locs hP hD hS => ?_)
    have hP : va_P D vwCl (wF cI h q f p a 0 x k) _ := hP
    have hD : va_D A (wF cI h q f p a 0 x k) := hD
    refine lv_aload_n hx hb dX0_setCrash_18 rfl (lv_at hl 0 rfl) ?_
    refine lv_iload_n hx hb dX0_setCrash_19 rfl (lv_at hl 2 rfl) ?_
    refine va_put (D := D) (ci := 0) (v := .int y) (ty := .int) (C := RX0) (T := TX0) (N := 6) hx hb hts iX0_setCrash_X0 tyX0 tyX0_ok nmX0 hown hK hP hD hS 0 rfl rfl 5 (by decide) (hts _ qX0_setCrash_3) (fun _ h9 => h9) rfl (by decide +kernel) rfl rfl (Nat.le_of_ble_eq_true rfl) dX0_setCrash_20 (fun H locs hP hD hS => ?_)
    have hP : va_P D vwCl (wF cI h q f p a 0 x y) _ := hP
    have hD : va_D A (wF cI h q f p a 0 x y) := hD
    exact hretV 23 ls _ _ (f, p, a, 0, x, y) dX0_setCrash_23 rfl rfl (by first | (simp only [z_set, if_pos c_2]; done) | rfl) hP hS
  · -- 2 f
    refine lv_iconst (v := 1) hx hb dX0_setCrash_5 (by decide) ?_
    refine lv_goto (tgt := 10) hx hb dX0_setCrash_6 (by decide) ?_
    refine va_put (D := D) (ci := 0) (v := .int 1) (ty := .boolean) (C := RX0) (T := TX0) (N := 6) hx hb hts iX0_setCrash_X0 tyX0 tyX0_ok nmX0 hown hK hP hD hS 0 rfl rfl 3 (by decide) (hts _ qX0_setCrash_1) (fun _ h9 => h9) rfl (by decide +kernel) rfl rfl (Nat.le_of_ble_eq_true rfl) dX0_setCrash_10 (fun H locs hP hD hS => ?_)
    have hP : va_P D vwCl (wF cI h q f p a 1 n k) _ := hP
    have hD : va_D A (wF cI h q f p a 1 n k) := hD
    refine lv_aload_n hx hb dX0_setCrash_13 rfl (lv_at hl 0 rfl) ?_
    refine lv_iload_n hx hb dX0_setCrash_14 rfl (lv_at hl 1 rfl) ?_
    refine va_put (D := D) (ci := 0) (v := .int x) (ty := .int) (C := RX0) (T := TX0) (N := 6) hx hb hts iX0_setCrash_X0 tyX0 tyX0_ok nmX0 hown hK hP hD hS 0 rfl rfl 4 (by decide) (hts _ qX0_setCrash_2) (fun _ h9 => h9) rfl (by decide +kernel) rfl rfl (Nat.le_of_ble_eq_true rfl) dX0_setCrash_15 (fun H locs hP hD hS => ?_)
    have hP : va_P D vwCl (wF cI h q f p a 1 x k) _ := hP
    have hD : va_D A (wF cI h q f p a 1 x k) := hD
    refine lv_aload_n hx hb dX0_setCrash_18 rfl (lv_at hl 0 rfl) ?_
    refine lv_iload_n hx hb dX0_setCrash_19 rfl (lv_at hl 2 rfl) ?_
    refine va_put (D := D) (ci := 0) (v := .int y) (ty := .int) (C := RX0) (T := TX0) (N := 6) hx hb hts iX0_setCrash_X0 tyX0 tyX0_ok nmX0 hown hK hP hD hS 0 rfl rfl 5 (by decide) (hts _ qX0_setCrash_3) (fun _ h9 => h9) rfl (by decide +kernel) rfl rfl (Nat.le_of_ble_eq_true rfl) dX0_setCrash_20 (fun H locs hP hD hS => ?_)
    have hP : va_P D vwCl (wF cI h q f p a 1 x y) _ := hP
    have hD : va_D A (wF cI h q f p a 1 x y) := hD
    exact hretV 23 ls _ _ (f, p, a, 1, x, y) dX0_setCrash_23 rfl rfl (by first | (simp only [z_set, if_neg c_2]; done) | rfl) hP hS
abbrev rm_X0_erase : Room := { frames := 1, cells := 0, slots := 0, locals := 20 }
set_option maxRecDepth 20000 in
theorem qX0_erase_1 : (Cond.fieldLink RX0 15 "FlashBoot$Flash" "power" "Z" : Cond) ∈ wsX0_erase := List.mem_of_getElem? (i := 1) rfl
set_option maxRecDepth 20000 in
theorem iX0_erase_X0 : ∀ w ∈ wsX00, w ∈ wsX0_erase := by decide +kernel
set_option maxRecDepth 20000 in
theorem qX0_erase_3 : (Cond.fieldLink RX0 11 "FlashBoot$Flash" "bytes" "[I" : Cond) ∈ wsX0_erase := List.mem_of_getElem? (i := 3) rfl
set_option maxRecDepth 20000 in
theorem qX0_erase_2 : (Cond.fieldLink RX0 29 "FlashBoot$Flash" "crashMask" "I" : Cond) ∈ wsX0_erase := List.mem_of_getElem? (i := 2) rfl
set_option maxHeartbeats 4000000 in
set_option maxRecDepth 100000 in
theorem k_X0_erase (l : Launch) (D : va_G) (cI : ClassId) (h q : Nat) (f : RW) (p : Int32) (a : Int32) (st : Int32) (n : Int32) (k : Int32) (pg : Nat) (hpg : pg < 24) : zMW (S := RW × Int32 × Int32 × Int32 × Int32 × Int32) l D cI yX0_erase wsX0_erase rm_X0_erase [.ref h, .int (nI pg)] (wF cI h q f p a st n k) (z_erase pg (f, p, a, st, n, k)) (fun _ => none) (fun u => wF cI h q u.1 u.2.1 u.2.2.1 u.2.2.2.1 u.2.2.2.2.1 u.2.2.2.2.2) := by
  refine zEntW (cc := cX0_erase) (maxL := 4) (ret := none) (own := RX0) (lvs := [(0, .ref h), (1, .int (nI pg))]) (by decide) rfl rfl (Nat.le_of_ble_eq_true rfl) rfl ?_
  intro p0 e s m args below meth c Q ls A hx hb hml hts hown hP hK hN hD hS hA hl hret hretV
  refine lv_aload_n hx hb dX0_erase_0 rfl (lv_at hl 0 rfl) ?_
  refine va_get (D := D) (ci := 0) (v := .int p) (C := RX0) (T := TX0) (N := 6) hx hb hts iX0_erase_X0 hown hK hP 0 rfl rfl 1 (by decide) (hts _ qX0_erase_1) (fun _ h9 => h9) rfl dX0_erase_1 ?_
  refine lv_if_eq (tgt := 21) hx hb dX0_erase_4 (by decide) (fun c_4 => ?_) (fun c_4 => ?_)
  · -- 4 t
    exact hretV 21 ls _ _ (f, p, a, st, n, k) dX0_erase_21 rfl rfl (by first | (simp only [z_erase, z_erase2, if_pos c_4]; done) | rfl) hP hS
  · -- 4 f
    refine lv_iload_n hx hb dX0_erase_7 rfl (lv_at hl 1 rfl) ?_
    refine lv_if_lt (tgt := 21) hx hb dX0_erase_8 (by decide) (fun c_8 => ?_) (fun c_8 => ?_)
    · -- 8 t
      exact absurd c_8 (nI_pos (by omega))
    · -- 8 f
      refine lv_iload_n hx hb dX0_erase_11 rfl (lv_at hl 1 rfl) ?_
      refine lv_bipush (v := 32) hx hb dX0_erase_12 (by decide) ?_
      refine lv_imul hx hb dX0_erase_14 ?_
      refine z_top (v := nI (pg * 32)) (pk_mul pg 32) ?_
      refine lv_sipush (v := 768) hx hb dX0_erase_15 (by decide) ?_
      refine z_icmp_lt (tgt := 22) hx hb dX0_erase_18 (by decide) (pg * 32) 768 rfl rfl (by omega) (by omega) (fun c_18 => ?_) (fun c_18 => ?_)
      · -- 18 t
        refine lv_aload_n hx hb dX0_erase_22 rfl (lv_at hl 0 rfl) ?_
        refine zVW (ws' := fun u => wF cI h q u.2.1 u.2.2.1 u.2.2.2.1 u.2.2.2.2.1 u.2.2.2.2.2.1 u.2.2.2.2.2.2) (As := []) (rest := []) ⟨hx, hb, hml, hown, hts⟩ (k_X0_tearNextAct l D cI h q f p a st n k) (cwV 0 hts gX0_erase_X0_tearNextAct rfl rfl rfl (by decide +kernel) ⟨Nat.le_of_ble_eq_true rfl, Nat.le_of_ble_eq_true rfl⟩) hP hK hN hD hS hA [0, 1] [] rfl (by decide) (fun _ => rfl) (fun _ => rfl) (fun _ => rfl) rfl (va_recv hK hP (ci := 0) (q0 := 0) rfl rfl) rfl hl.1 rfl (Nat.le_of_ble_eq_true rfl) dX0_erase_23 ⟨Nat.zero_le _, Nat.zero_le _⟩ (fun u_23 H locs hu_23 hP hD hS => ?_)
        obtain ⟨r_23, f_23, p_23, a_23, st_23, n_23, k_23⟩ := u_23
        have hP : va_P D vwCl (wF cI h q f_23 p_23 a_23 st_23 n_23 k_23) _ := hP
        have hD : va_D A (wF cI h q f_23 p_23 a_23 st_23 n_23 k_23) := hD
        refine W.eq (g2 := F0 m 26 ls [.int r_23]) rfl ?_
        refine lv_if_eq (tgt := 39) hx hb dX0_erase_26 (by decide) (fun c_26 => ?_) (fun c_26 => ?_)
        · -- 26 t
          refine lv_bipush (v := 32) hx hb dX0_erase_39 (by decide) ?_
          refine lv_istore_n (lv' := [(2, .int 32), (0, .ref h), (1, .int (nI pg))]) hx hb dX0_erase_41 rfl hl (by decide) rfl (fun ls hl => ?_)
          refine lv_iconst (v := 0) hx hb dX0_erase_42 (by decide) ?_
          refine lv_istore_n (lv' := [(3, .int 0), (2, .int 32), (0, .ref h), (1, .int (nI pg))]) hx hb dX0_erase_43 rfl hl (by decide) rfl (fun ls hl => ?_)
          have lp_44 : ∀ (g_44 : Nat) (i : Nat) (H : Heap) (locs : List Loc) (ls : Array Slot), i ≤ (32 : Int32).toNatClampNeg → (32 : Int32).toNatClampNeg ≤ 32 → (32 : Int32).toNatClampNeg - i < g_44 → va_P D vwCl (wF cI h q (z_fill f_23 (pg * 32) i) p_23 a_23 st_23 n_23 k_23) H → va_D A (wF cI h q (z_fill f_23 (pg * 32) i) p_23 a_23 st_23 n_23 k_23) → va_S A s.heap H locs → lv_has ls 4 [(0, .ref h), (1, .int (nI pg)), (2, .int 32), (3, .int (nI i))] → W p0 l e rm_X0_erase s m args below meth c H locs 0 0 Q (F0 m 44 ls []) := by
            intro g_44
            induction g_44 with
            | zero => intro i H locs ls h1 h2 h9_44; exact absurd h9_44 (Nat.not_lt_zero _)
            | succ g_44 ih_44 =>
              intro i H locs ls h1 h2 h9_44 hP hD hS hl
              refine lv_iload_n hx hb dX0_erase_44 rfl (lv_at hl 3 rfl) ?_
              refine lv_iload_n hx hb dX0_erase_45 rfl (lv_at hl 2 rfl) ?_
              refine z_icmp_geC (tgt := 69) hx hb dX0_erase_46 (by decide) i rfl (by omega) (fun c_46 => ?_) (fun c_46 => ?_)
              · -- 46 t
                have e9 : i = (32 : Int32).toNatClampNeg := by omega
                exact hretV 69 ls _ _ (z_fill f_23 (pg * 32) i, p_23, a_23, st_23, n_23, k_23) dX0_erase_69 rfl rfl (by simp only [z_erase, if_neg c_4, ← hu_23, z_erase2, e9, z_cntT, z_cntF, c_26, not_false_eq_true]) hP hS
              · -- 46 f
                refine lv_aload_n hx hb dX0_erase_49 rfl (lv_at hl 0 rfl) ?_
                refine va_get (D := D) (ci := 0) (v := .ref q) (C := RX0) (T := TX0) (N := 6) hx hb hts iX0_erase_X0 hown hK hP 0 rfl rfl 0 (by decide) (hts _ qX0_erase_3) (fun _ h9 => h9) rfl dX0_erase_50 ?_
                refine lv_iload_n hx hb dX0_erase_53 rfl (lv_at hl 1 rfl) ?_
                refine lv_bipush (v := 32) hx hb dX0_erase_54 (by decide) ?_
                refine lv_imul hx hb dX0_erase_56 ?_
                refine z_top (v := nI (pg * 32)) (pk_mul pg 32) ?_
                refine lv_iload_n hx hb dX0_erase_57 rfl (lv_at hl 3 rfl) ?_
                refine lv_iadd hx hb dX0_erase_58 ?_
                refine z_top (v := nI ((pg * 32) + i)) (nI_add (pg * 32) i) ?_
                refine lv_sipush (v := 255) hx hb dX0_erase_59 (by decide) ?_
                refine z_iast hx hb hK hP hD hS 1 0 rfl rfl ((pg * 32) + i) (rfl) (by omega) (by decide) dX0_erase_62 (fun H locs hP hD hS => ?_)
                have hP : va_P D vwCl (wF cI h q (upd (z_fill f_23 (pg * 32) i) ((pg * 32) + i) 255) p_23 a_23 st_23 n_23 k_23) _ := hP
                have hD : va_D A (wF cI h q (upd (z_fill f_23 (pg * 32) i) ((pg * 32) + i) 255) p_23 a_23 st_23 n_23 k_23) := hD
                refine lv_iinc (v := (nI (i + 1))) (lv' := [(3, .int (nI (i + 1))), (0, .ref h), (1, .int (nI pg)), (2, .int 32)]) hx hb dX0_erase_63 hl (k := 3) rfl (z_inc _ _ rfl) (by decide) rfl (fun ls hl => ?_)
                refine lv_goto (tgt := 44) hx hb dX0_erase_66 (by decide) ?_
                exact ih_44 (i + 1) _ _ _ (by omega) (by omega) (by omega) hP hD hS (lv_sub hl [1, 2, 3, 0] rfl)
          exact lp_44 _ 0 _ _ _ (Nat.zero_le _) (by first | (exact Nat.le_succ_of_le (z_rem32 _)) | decide) (Nat.lt_succ_self _) hP hD hS (lv_sub hl [2, 3, 1, 0] rfl)
        · -- 26 f
          refine lv_aload_n hx hb dX0_erase_29 rfl (lv_at hl 0 rfl) ?_
          refine va_get (D := D) (ci := 0) (v := .int k_23) (C := RX0) (T := TX0) (N := 6) hx hb hts iX0_erase_X0 hown hK hP 0 rfl rfl 5 (by decide) (hts _ qX0_erase_2) (fun _ h9 => h9) rfl dX0_erase_30 ?_
          refine lv_bipush (v := 32) hx hb dX0_erase_33 (by decide) ?_
          refine lv_irem hx hb dX0_erase_35 (by decide) ?_
          refine lv_goto (tgt := 41) hx hb dX0_erase_36 (by decide) ?_
          refine lv_istore_n (lv' := [(2, .int (k_23 - k_23 / 32 * 32)), (0, .ref h), (1, .int (nI pg))]) hx hb dX0_erase_41 rfl hl (by decide) rfl (fun ls hl => ?_)
          refine lv_iconst (v := 0) hx hb dX0_erase_42 (by decide) ?_
          refine lv_istore_n (lv' := [(3, .int 0), (2, .int (k_23 - k_23 / 32 * 32)), (0, .ref h), (1, .int (nI pg))]) hx hb dX0_erase_43 rfl hl (by decide) rfl (fun ls hl => ?_)
          have lp_44 : ∀ (g_44 : Nat) (i : Nat) (H : Heap) (locs : List Loc) (ls : Array Slot), i ≤ (k_23 - k_23 / 32 * 32).toNatClampNeg → (k_23 - k_23 / 32 * 32).toNatClampNeg ≤ 32 → (k_23 - k_23 / 32 * 32).toNatClampNeg - i < g_44 → va_P D vwCl (wF cI h q (z_fill f_23 (pg * 32) i) p_23 a_23 st_23 n_23 k_23) H → va_D A (wF cI h q (z_fill f_23 (pg * 32) i) p_23 a_23 st_23 n_23 k_23) → va_S A s.heap H locs → lv_has ls 4 [(0, .ref h), (1, .int (nI pg)), (2, .int (k_23 - k_23 / 32 * 32)), (3, .int (nI i))] → W p0 l e rm_X0_erase s m args below meth c H locs 0 0 Q (F0 m 44 ls []) := by
            intro g_44
            induction g_44 with
            | zero => intro i H locs ls h1 h2 h9_44; exact absurd h9_44 (Nat.not_lt_zero _)
            | succ g_44 ih_44 =>
              intro i H locs ls h1 h2 h9_44 hP hD hS hl
              refine lv_iload_n hx hb dX0_erase_44 rfl (lv_at hl 3 rfl) ?_
              refine lv_iload_n hx hb dX0_erase_45 rfl (lv_at hl 2 rfl) ?_
              refine z_icmp_geC (tgt := 69) hx hb dX0_erase_46 (by decide) i rfl (by omega) (fun c_46 => ?_) (fun c_46 => ?_)
              · -- 46 t
                have e9 : i = (k_23 - k_23 / 32 * 32).toNatClampNeg := by omega
                exact hretV 69 ls _ _ (z_fill f_23 (pg * 32) i, p_23, a_23, st_23, n_23, k_23) dX0_erase_69 rfl rfl (by simp only [z_erase, if_neg c_4, ← hu_23, z_erase2, e9, z_cntT, z_cntF, c_26, not_false_eq_true]) hP hS
              · -- 46 f
                refine lv_aload_n hx hb dX0_erase_49 rfl (lv_at hl 0 rfl) ?_
                refine va_get (D := D) (ci := 0) (v := .ref q) (C := RX0) (T := TX0) (N := 6) hx hb hts iX0_erase_X0 hown hK hP 0 rfl rfl 0 (by decide) (hts _ qX0_erase_3) (fun _ h9 => h9) rfl dX0_erase_50 ?_
                refine lv_iload_n hx hb dX0_erase_53 rfl (lv_at hl 1 rfl) ?_
                refine lv_bipush (v := 32) hx hb dX0_erase_54 (by decide) ?_
                refine lv_imul hx hb dX0_erase_56 ?_
                refine z_top (v := nI (pg * 32)) (pk_mul pg 32) ?_
                refine lv_iload_n hx hb dX0_erase_57 rfl (lv_at hl 3 rfl) ?_
                refine lv_iadd hx hb dX0_erase_58 ?_
                refine z_top (v := nI ((pg * 32) + i)) (nI_add (pg * 32) i) ?_
                refine lv_sipush (v := 255) hx hb dX0_erase_59 (by decide) ?_
                refine z_iast hx hb hK hP hD hS 1 0 rfl rfl ((pg * 32) + i) (rfl) (by omega) (by decide) dX0_erase_62 (fun H locs hP hD hS => ?_)
                have hP : va_P D vwCl (wF cI h q (upd (z_fill f_23 (pg * 32) i) ((pg * 32) + i) 255) p_23 a_23 st_23 n_23 k_23) _ := hP
                have hD : va_D A (wF cI h q (upd (z_fill f_23 (pg * 32) i) ((pg * 32) + i) 255) p_23 a_23 st_23 n_23 k_23) := hD
                refine lv_iinc (v := (nI (i + 1))) (lv' := [(3, .int (nI (i + 1))), (0, .ref h), (1, .int (nI pg)), (2, .int (k_23 - k_23 / 32 * 32))]) hx hb dX0_erase_63 hl (k := 3) rfl (z_inc _ _ rfl) (by decide) rfl (fun ls hl => ?_)
                refine lv_goto (tgt := 44) hx hb dX0_erase_66 (by decide) ?_
                exact ih_44 (i + 1) _ _ _ (by omega) (by omega) (by omega) hP hD hS (lv_sub hl [1, 2, 3, 0] rfl)
          exact lp_44 _ 0 _ _ _ (Nat.zero_le _) (by first | (exact Nat.le_succ_of_le (z_rem32 _)) | decide) (Nat.lt_succ_self _) hP hD hS (lv_sub hl [2, 3, 1, 0] rfl)
      · -- 18 f
        exact absurd c_18 (by omega)
abbrev rm_X0_program : Room := { frames := 1, cells := 0, slots := 0, locals := 20 }
set_option maxRecDepth 20000 in
theorem qX0_program_1 : (Cond.fieldLink RX0 15 "FlashBoot$Flash" "power" "Z" : Cond) ∈ wsX0_program := List.mem_of_getElem? (i := 1) rfl
set_option maxRecDepth 20000 in
theorem iX0_program_X0 : ∀ w ∈ wsX00, w ∈ wsX0_program := by decide +kernel
set_option maxRecDepth 20000 in
theorem qX0_program_3 : (Cond.fieldLink RX0 11 "FlashBoot$Flash" "bytes" "[I" : Cond) ∈ wsX0_program := List.mem_of_getElem? (i := 3) rfl
set_option maxRecDepth 20000 in
theorem qX0_program_2 : (Cond.fieldLink RX0 29 "FlashBoot$Flash" "crashMask" "I" : Cond) ∈ wsX0_program := List.mem_of_getElem? (i := 2) rfl
set_option maxHeartbeats 4000000 in
set_option maxRecDepth 100000 in
theorem k_X0_program (l : Launch) (D : va_G) (cI : ClassId) (h q : Nat) (f : RW) (p : Int32) (a : Int32) (st : Int32) (n : Int32) (k : Int32) (i : Int32) (x : Int32)  : zMW (S := RW × Int32 × Int32 × Int32 × Int32 × Int32) l D cI yX0_program wsX0_program rm_X0_program [.ref h, .int i, .int x] (wF cI h q f p a st n k) (z_prog i x (f, p, a, st, n, k)) (fun _ => none) (fun u => wF cI h q u.1 u.2.1 u.2.2.1 u.2.2.2.1 u.2.2.2.2.1 u.2.2.2.2.2) := by
  refine zEntW (cc := cX0_program) (maxL := 4) (ret := none) (own := RX0) (lvs := [(0, .ref h), (1, .int i), (2, .int x)]) (by decide) rfl rfl (Nat.le_of_ble_eq_true rfl) rfl ?_
  intro p0 e s m args below meth c Q ls A hx hb hml hts hown hP hK hN hD hS hA hl hret hretV
  refine lv_aload_n hx hb dX0_program_0 rfl (lv_at hl 0 rfl) ?_
  refine va_get (D := D) (ci := 0) (v := .int p) (C := RX0) (T := TX0) (N := 6) hx hb hts iX0_program_X0 hown hK hP 0 rfl rfl 1 (by decide) (hts _ qX0_program_1) (fun _ h9 => h9) rfl dX0_program_1 ?_
  refine lv_if_eq (tgt := 18) hx hb dX0_program_4 (by decide) (fun c_4 => ?_) (fun c_4 => ?_)
  · -- 4 t
    exact hretV 18 ls _ _ (f, p, a, st, n, k) dX0_program_18 rfl rfl (by first | (simp only [z_prog, z_prog2, if_pos c_4]; done) | rfl) hP hS
  · -- 4 f
    refine lv_iload_n hx hb dX0_program_7 rfl (lv_at hl 1 rfl) ?_
    refine lv_if_lt (tgt := 18) hx hb dX0_program_8 (by decide) (fun c_8 => ?_) (fun c_8 => ?_)
    · -- 8 t
      exact hretV 18 ls _ _ (f, p, a, st, n, k) dX0_program_18 rfl rfl (by first | (simp only [z_prog, z_prog2, if_neg c_4, if_pos c_8]; done) | rfl) hP hS
    · -- 8 f
      refine lv_iload_n hx hb dX0_program_11 rfl (lv_at hl 1 rfl) ?_
      refine lv_sipush (v := 768) hx hb dX0_program_12 (by decide) ?_
      refine lv_icmp_lt (tgt := 19) hx hb dX0_program_15 (by decide) (fun c_15 => ?_) (fun c_15 => ?_)
      · -- 15 t
        refine lv_aload_n hx hb dX0_program_19 rfl (lv_at hl 0 rfl) ?_
        refine zVW (ws' := fun u => wF cI h q u.2.1 u.2.2.1 u.2.2.2.1 u.2.2.2.2.1 u.2.2.2.2.2.1 u.2.2.2.2.2.2) (As := []) (rest := []) ⟨hx, hb, hml, hown, hts⟩ (k_X0_tearNextAct l D cI h q f p a st n k) (cwV 0 hts gX0_program_X0_tearNextAct rfl rfl rfl (by decide +kernel) ⟨Nat.le_of_ble_eq_true rfl, Nat.le_of_ble_eq_true rfl⟩) hP hK hN hD hS hA [0, 1] [] rfl (by decide) (fun _ => rfl) (fun _ => rfl) (fun _ => rfl) rfl (va_recv hK hP (ci := 0) (q0 := 0) rfl rfl) rfl hl.1 rfl (Nat.le_of_ble_eq_true rfl) dX0_program_20 ⟨Nat.zero_le _, Nat.zero_le _⟩ (fun u_20 H locs hu_20 hP hD hS => ?_)
        obtain ⟨r_20, f_20, p_20, a_20, st_20, n_20, k_20⟩ := u_20
        have hP : va_P D vwCl (wF cI h q f_20 p_20 a_20 st_20 n_20 k_20) _ := hP
        have hD : va_D A (wF cI h q f_20 p_20 a_20 st_20 n_20 k_20) := hD
        refine W.eq (g2 := F0 m 23 ls [.int r_20]) rfl ?_
        refine lv_if_eq (tgt := 35) hx hb dX0_program_23 (by decide) (fun c_23 => ?_) (fun c_23 => ?_)
        · -- 23 t
          refine lv_iload_n hx hb dX0_program_35 rfl (lv_at hl 2 rfl) ?_
          refine lv_istore_n (lv' := [(3, .int x), (0, .ref h), (1, .int i), (2, .int x)]) hx hb dX0_program_36 rfl hl (by decide) rfl (fun ls hl => ?_)
          refine lv_aload_n hx hb dX0_program_37 rfl (lv_at hl 1 rfl) ?_
          refine va_get (D := D) (ci := 0) (v := .ref q) (C := RX0) (T := TX0) (N := 6) hx hb hts iX0_program_X0 hown hK hP 0 rfl rfl 0 (by decide) (hts _ qX0_program_3) (fun _ h9 => h9) rfl dX0_program_38 ?_
          refine lv_iload_n hx hb dX0_program_41 rfl (lv_at hl 2 rfl) ?_
          refine lv_aload_n hx hb dX0_program_42 rfl (lv_at hl 1 rfl) ?_
          refine va_get (D := D) (ci := 0) (v := .ref q) (C := RX0) (T := TX0) (N := 6) hx hb hts iX0_program_X0 hown hK hP 0 rfl rfl 0 (by decide) (hts _ qX0_program_3) (fun _ h9 => h9) rfl dX0_program_43 ?_
          refine lv_iload_n hx hb dX0_program_46 rfl (lv_at hl 2 rfl) ?_
          refine va_iald hx hb hK hP 1 0 rfl rfl (z_vp (m := 768) rfl (by decide) c_8 c_15) dX0_program_47 ?_
          refine lv_iload_n hx hb dX0_program_48 rfl (lv_at hl 0 rfl) ?_
          refine lv_iand hx hb dX0_program_49 ?_
          refine va_iast hx hb hK hP hD hS 1 0 rfl rfl (z_vp (m := 768) rfl (by decide) c_8 c_15) dX0_program_50 (fun H locs hP hD hS => ?_)
          have hP : va_P D vwCl (wF cI h q (upd f_20 (i).toNatClampNeg ((f_20 (i).toNatClampNeg) &&& x)) p_20 a_20 st_20 n_20 k_20) _ := hP
          have hD : va_D A (wF cI h q (upd f_20 (i).toNatClampNeg ((f_20 (i).toNatClampNeg) &&& x)) p_20 a_20 st_20 n_20 k_20) := hD
          exact hretV 51 ls _ _ (upd f_20 (i).toNatClampNeg ((f_20 (i).toNatClampNeg) &&& x), p_20, a_20, st_20, n_20, k_20) dX0_program_51 rfl rfl (by first | (simp only [z_prog, z_prog2, ← hu_20, if_neg c_4, if_neg c_8, if_pos c_15, if_pos c_23]; done) | rfl) hP hS
        · -- 23 f
          refine lv_iload_n hx hb dX0_program_26 rfl (lv_at hl 2 rfl) ?_
          refine lv_aload_n hx hb dX0_program_27 rfl (lv_at hl 0 rfl) ?_
          refine va_get (D := D) (ci := 0) (v := .int k_20) (C := RX0) (T := TX0) (N := 6) hx hb hts iX0_program_X0 hown hK hP 0 rfl rfl 5 (by decide) (hts _ qX0_program_2) (fun _ h9 => h9) rfl dX0_program_28 ?_
          refine lv_ior hx hb dX0_program_31 ?_
          refine lv_goto (tgt := 36) hx hb dX0_program_32 (by decide) ?_
          refine lv_istore_n (lv' := [(3, .int (x ||| k_20)), (0, .ref h), (1, .int i), (2, .int x)]) hx hb dX0_program_36 rfl hl (by decide) rfl (fun ls hl => ?_)
          refine lv_aload_n hx hb dX0_program_37 rfl (lv_at hl 1 rfl) ?_
          refine va_get (D := D) (ci := 0) (v := .ref q) (C := RX0) (T := TX0) (N := 6) hx hb hts iX0_program_X0 hown hK hP 0 rfl rfl 0 (by decide) (hts _ qX0_program_3) (fun _ h9 => h9) rfl dX0_program_38 ?_
          refine lv_iload_n hx hb dX0_program_41 rfl (lv_at hl 2 rfl) ?_
          refine lv_aload_n hx hb dX0_program_42 rfl (lv_at hl 1 rfl) ?_
          refine va_get (D := D) (ci := 0) (v := .ref q) (C := RX0) (T := TX0) (N := 6) hx hb hts iX0_program_X0 hown hK hP 0 rfl rfl 0 (by decide) (hts _ qX0_program_3) (fun _ h9 => h9) rfl dX0_program_43 ?_
          refine lv_iload_n hx hb dX0_program_46 rfl (lv_at hl 2 rfl) ?_
          refine va_iald hx hb hK hP 1 0 rfl rfl (z_vp (m := 768) rfl (by decide) c_8 c_15) dX0_program_47 ?_
          refine lv_iload_n hx hb dX0_program_48 rfl (lv_at hl 0 rfl) ?_
          refine lv_iand hx hb dX0_program_49 ?_
          refine va_iast hx hb hK hP hD hS 1 0 rfl rfl (z_vp (m := 768) rfl (by decide) c_8 c_15) dX0_program_50 (fun H locs hP hD hS => ?_)
          have hP : va_P D vwCl (wF cI h q (upd f_20 (i).toNatClampNeg ((f_20 (i).toNatClampNeg) &&& (x ||| k_20))) p_20 a_20 st_20 n_20 k_20) _ := hP
          have hD : va_D A (wF cI h q (upd f_20 (i).toNatClampNeg ((f_20 (i).toNatClampNeg) &&& (x ||| k_20))) p_20 a_20 st_20 n_20 k_20) := hD
          exact hretV 51 ls _ _ (upd f_20 (i).toNatClampNeg ((f_20 (i).toNatClampNeg) &&& (x ||| k_20)), p_20, a_20, st_20, n_20, k_20) dX0_program_51 rfl rfl (by first | (simp only [z_prog, z_prog2, ← hu_20, if_neg c_4, if_neg c_8, if_pos c_15, if_neg c_23]; done) | rfl) hP hS
      · -- 15 f
        exact hretV 18 ls _ _ (f, p, a, st, n, k) dX0_program_18 rfl rfl (by first | (simp only [z_prog, z_prog2, if_neg c_4, if_neg c_8, if_neg c_15]; done) | rfl) hP hS
abbrev rm_X0_programRow : Room := { frames := 2, cells := 0, slots := 0, locals := 43 }
set_option maxHeartbeats 4000000 in
set_option maxRecDepth 100000 in
theorem k_X0_programRow (l : Launch) (D : va_G) (cI : ClassId) (h q r : Nat) (f : RW) (p : Int32) (a : Int32) (st : Int32) (n : Int32) (k : Int32) (row : RW) (rl : Nat) (b : Int32) (len : Int32) (hrl : rl < 2 ^ 31) : zMW (S := RW × Int32 × Int32 × Int32 × Int32 × Int32) l D cI yX0_programRow wsX0_programRow rm_X0_programRow [.ref h, .int b, .ref r, .int len] (wFR cI h q r f p a st n k row rl) (z_row b row rl len (f, p, a, st, n, k)) (fun _ => none) (fun u => wFR cI h q r u.1 u.2.1 u.2.2.1 u.2.2.2.1 u.2.2.2.2.1 u.2.2.2.2.2 row rl) := by
  refine zEntW (cc := cX0_programRow) (maxL := 5) (ret := none) (own := RX0) (lvs := [(0, .ref h), (1, .int b), (2, .ref r), (3, .int len)]) (by decide) rfl rfl (Nat.le_of_ble_eq_true rfl) rfl ?_
  intro p0 e s m args below meth c Q ls A hx hb hml hts hown hP hK hN hD hS hA hl hret hretV
  refine lv_iconst (v := 0) hx hb dX0_programRow_0 (by decide) ?_
  refine lv_istore (lv' := [(4, .int 0), (0, .ref h), (1, .int b), (2, .ref r), (3, .int len)]) hx hb dX0_programRow_1 hl (by decide) rfl (fun ls hl => ?_)
  have lp_3 : ∀ (g_3 : Nat) (i : Nat) (f9 : RW) (p9 : Int32) (a9 : Int32) (s9 : Int32) (n9 : Int32) (k9 : Int32) (H : Heap) (locs : List Loc) (ls : Array Slot), i ≤ rl → i ≤ len.toNatClampNeg → (f9, p9, a9, s9, n9, k9) = z_rowN (f, p, a, st, n, k) b row i → rl - i < g_3 → va_P D vwCl (wFR cI h q r f9 p9 a9 s9 n9 k9 row rl) H → va_D A (wFR cI h q r f9 p9 a9 s9 n9 k9 row rl) → va_S A s.heap H locs → lv_has ls 5 [(0, .ref h), (1, .int b), (2, .ref r), (3, .int len), (4, .int (nI i))] → W p0 l e rm_X0_programRow s m args below meth c H locs 0 0 Q (F0 m 3 ls []) := by
    intro g_3
    induction g_3 with
    | zero => intro i f9 p9 a9 s9 n9 k9 H locs ls h1 h2 hy h9_3; exact absurd h9_3 (Nat.not_lt_zero _)
    | succ g_3 ih_3 =>
      intro i f9 p9 a9 s9 n9 k9 H locs ls h1 h2 hy h9_3 hP hD hS hl
      refine lv_iload hx hb dX0_programRow_3 (lv_at hl 4 rfl) ?_
      refine lv_iload_n hx hb dX0_programRow_5 rfl (lv_at hl 3 rfl) ?_
      refine z_icmp_geC (tgt := 34) hx hb dX0_programRow_6 (by decide) i rfl (by omega) (fun c_6 => ?_) (fun c_6 => ?_)
      · -- 6 t
        exact hretV 34 ls _ _ (f9, p9, a9, s9, n9, k9) dX0_programRow_34 rfl rfl (by rw [z_row, show min len.toNatClampNeg rl = i by omega]; exact hy) hP hS
      · -- 6 f
        refine lv_iload hx hb dX0_programRow_9 (lv_at hl 4 rfl) ?_
        refine lv_aload_n hx hb dX0_programRow_11 rfl (lv_at hl 2 rfl) ?_
        refine va_alen (v := nI rl) hx hb hK hP 2 0 rfl (ty := .int) rfl rfl dX0_programRow_12 ?_
        refine z_icmp_ge (tgt := 34) hx hb dX0_programRow_13 (by decide) i rl rfl rfl (by omega) (by omega) (fun c_13 => ?_) (fun c_13 => ?_)
        · -- 13 t
          exact hretV 34 ls _ _ (f9, p9, a9, s9, n9, k9) dX0_programRow_34 rfl rfl (by rw [z_row, show min len.toNatClampNeg rl = i by omega]; exact hy) hP hS
        · -- 13 f
          refine lv_aload_n hx hb dX0_programRow_16 rfl (lv_at hl 0 rfl) ?_
          refine lv_iload_n hx hb dX0_programRow_17 rfl (lv_at hl 1 rfl) ?_
          refine lv_iload hx hb dX0_programRow_18 (lv_at hl 4 rfl) ?_
          refine lv_iadd hx hb dX0_programRow_20 ?_
          refine lv_aload_n hx hb dX0_programRow_21 rfl (lv_at hl 2 rfl) ?_
          refine lv_iload hx hb dX0_programRow_22 (lv_at hl 4 rfl) ?_
          refine z_iald hx hb hK hP 2 0 rfl rfl i rfl (by omega) (by omega) dX0_programRow_24 ?_
          refine zVW (ws' := fun u => wFR cI h q r u.1 u.2.1 u.2.2.1 u.2.2.2.1 u.2.2.2.2.1 u.2.2.2.2.2 row rl) (As := [.int (b + (nI i)), .int (row i)]) (rest := []) ⟨hx, hb, hml, hown, hts⟩ (k_X0_program l D cI h q f9 p9 a9 s9 n9 k9 (b + (nI i)) (row i)) (cwV 2 hts gX0_programRow_X0_program rfl rfl rfl (by decide +kernel) ⟨Nat.le_of_ble_eq_true rfl, Nat.le_of_ble_eq_true rfl⟩) hP hK hN hD hS hA [0, 1] [2] rfl (by decide) (fun _ => rfl) (fun _ => rfl) (fun _ => rfl) rfl (va_recv hK hP (ci := 0) (q0 := 0) rfl rfl) rfl hl.1 rfl (Nat.le_of_ble_eq_true rfl) dX0_programRow_25 ⟨Nat.zero_le _, Nat.zero_le _⟩ (fun u_25 H locs hu_25 hP hD hS => ?_)
          obtain ⟨f_25, p_25, a_25, st_25, n_25, k_25⟩ := u_25
          have hP : va_P D vwCl (wFR cI h q r f_25 p_25 a_25 st_25 n_25 k_25 row rl) _ := hP
          have hD : va_D A (wFR cI h q r f_25 p_25 a_25 st_25 n_25 k_25 row rl) := hD
          refine W.eq (g2 := F0 m 28 ls []) rfl ?_
          refine lv_iinc (v := (nI (i + 1))) (lv' := [(4, .int (nI (i + 1))), (0, .ref h), (1, .int b), (2, .ref r), (3, .int len)]) hx hb dX0_programRow_28 hl (k := 4) rfl (z_inc _ _ rfl) (by decide) rfl (fun ls hl => ?_)
          refine lv_goto (tgt := 3) hx hb dX0_programRow_31 (by decide) ?_
          exact ih_3 (i + 1) f_25 p_25 a_25 st_25 n_25 k_25 _ _ _ (by omega) (by omega) (by rw [hu_25, z_rowN, ← hy]) (by omega) hP hD hS (lv_sub hl [1, 2, 3, 4, 0] rfl)
  exact lp_3 _ 0 f p a st n k _ _ _ (Nat.zero_le _) (Nat.zero_le _) rfl (Nat.lt_succ_self _) hP hD hS (lv_sub hl [1, 2, 3, 4, 0] rfl)
abbrev rm_X0_programWord : Room := { frames := 2, cells := 0, slots := 0, locals := 43 }
set_option maxRecDepth 20000 in
theorem qX0_programWord_2 : (Cond.initialized RX5 : Cond) ∈ wsX0_programWord := List.mem_of_getElem? (i := 2) rfl
set_option maxRecDepth 20000 in
theorem qX0_programWord_1 : (Cond.static yX5_byteOfWord : Cond) ∈ wsX0_programWord := List.mem_of_getElem? (i := 1) rfl
set_option maxHeartbeats 4000000 in
set_option maxRecDepth 100000 in
theorem k_X0_programWord (l : Launch) (D : va_G) (cI : ClassId) (h q : Nat) (f : RW) (p : Int32) (a : Int32) (st : Int32) (n : Int32) (k : Int32) (b : Int32) (w : Int32)  : zMW (S := RW × Int32 × Int32 × Int32 × Int32 × Int32) l D cI yX0_programWord wsX0_programWord rm_X0_programWord [.ref h, .int b, .int w] (wF cI h q f p a st n k) (z_pw b w (f, p, a, st, n, k)) (fun _ => none) (fun u => wF cI h q u.1 u.2.1 u.2.2.1 u.2.2.2.1 u.2.2.2.2.1 u.2.2.2.2.2) := by
  refine zEntW (cc := cX0_programWord) (maxL := 4) (ret := none) (own := RX0) (lvs := [(0, .ref h), (1, .int b), (2, .int w)]) (by decide) rfl rfl (Nat.le_of_ble_eq_true rfl) rfl ?_
  intro p0 e s m args below meth c Q ls A hx hb hml hts hown hP hK hN hD hS hA hl hret hretV
  refine lv_iconst (v := 0) hx hb dX0_programWord_0 (by decide) ?_
  refine lv_istore_n (lv' := [(3, .int 0), (0, .ref h), (1, .int b), (2, .int w)]) hx hb dX0_programWord_1 rfl hl (by decide) rfl (fun ls hl => ?_)
  have lp_2 : ∀ (g_2 : Nat) (i : Nat) (f9 : RW) (p9 : Int32) (a9 : Int32) (s9 : Int32) (n9 : Int32) (k9 : Int32) (H : Heap) (locs : List Loc) (ls : Array Slot), i ≤ 4 → (f9, p9, a9, s9, n9, k9) = z_pwN (f, p, a, st, n, k) b w i → 4 - i < g_2 → va_P D vwCl (wF cI h q f9 p9 a9 s9 n9 k9) H → va_D A (wF cI h q f9 p9 a9 s9 n9 k9) → va_S A s.heap H locs → lv_has ls 4 [(0, .ref h), (1, .int b), (2, .int w), (3, .int (nI i))] → W p0 l e rm_X0_programWord s m args below meth c H locs 0 0 Q (F0 m 2 ls []) := by
    intro g_2
    induction g_2 with
    | zero => intro i f9 p9 a9 s9 n9 k9 H locs ls h1 hy h9_2; exact absurd h9_2 (Nat.not_lt_zero _)
    | succ g_2 ih_2 =>
      intro i f9 p9 a9 s9 n9 k9 H locs ls h1 hy h9_2 hP hD hS hl
      refine lv_iload_n hx hb dX0_programWord_2 rfl (lv_at hl 3 rfl) ?_
      refine lv_iconst (v := 4) hx hb dX0_programWord_3 (by decide) ?_
      refine z_icmp_ge (tgt := 25) hx hb dX0_programWord_4 (by decide) i 4 rfl rfl (by omega) (by omega) (fun c_4 => ?_) (fun c_4 => ?_)
      · -- 4 t
        exact hretV 25 ls _ _ (f9, p9, a9, s9, n9, k9) dX0_programWord_25 rfl rfl (by rw [z_pw, show 4 = i by omega]; exact hy) hP hS
      · -- 4 f
        refine lv_aload_n hx hb dX0_programWord_7 rfl (lv_at hl 0 rfl) ?_
        refine lv_iload_n hx hb dX0_programWord_8 rfl (lv_at hl 1 rfl) ?_
        refine lv_iload_n hx hb dX0_programWord_9 rfl (lv_at hl 3 rfl) ?_
        refine lv_iadd hx hb dX0_programWord_10 ?_
        refine lv_iload_n hx hb dX0_programWord_11 rfl (lv_at hl 2 rfl) ?_
        refine lv_iload_n hx hb dX0_programWord_12 rfl (lv_at hl 3 rfl) ?_
        refine zNR (As := [.int w, .int (nI i)]) (rest := [.int (b + (nI i)), .ref h]) ⟨hx, hb, hml, hown, hts⟩ (k_X5_byteOfWord l D cI w (nI i)) ⟨va_cnB 2 hts gX0_programWord_X5_byteOfWord_n40 rfl rfl rfl (zN_at hN 12 rfl) (hts _ qX0_programWord_2) (by decide +kernel) ⟨Nat.le_of_ble_eq_true rfl, Nat.le_of_ble_eq_true rfl⟩, hts _ qX0_programWord_1, trivial⟩ hP hK hN [] rfl rfl hl.1 rfl (Nat.le_of_ble_eq_true rfl) dX0_programWord_13 ⟨Nat.zero_le _, Nat.zero_le _⟩ ?_
        refine zVW (ws' := fun u => wF cI h q u.1 u.2.1 u.2.2.1 u.2.2.2.1 u.2.2.2.2.1 u.2.2.2.2.2) (As := [.int (b + (nI i)), .int (z_bow w (nI i))]) (rest := []) ⟨hx, hb, hml, hown, hts⟩ (k_X0_program l D cI h q f9 p9 a9 s9 n9 k9 (b + (nI i)) (z_bow w (nI i))) (cwV 2 hts gX0_programWord_X0_program rfl rfl rfl (by decide +kernel) ⟨Nat.le_of_ble_eq_true rfl, Nat.le_of_ble_eq_true rfl⟩) hP hK hN hD hS hA [0, 1] [] rfl (by decide) (fun _ => rfl) (fun _ => rfl) (fun _ => rfl) rfl (va_recv hK hP (ci := 0) (q0 := 0) rfl rfl) rfl hl.1 rfl (Nat.le_of_ble_eq_true rfl) dX0_programWord_16 ⟨Nat.zero_le _, Nat.zero_le _⟩ (fun u_16 H locs hu_16 hP hD hS => ?_)
        obtain ⟨f_16, p_16, a_16, st_16, n_16, k_16⟩ := u_16
        have hP : va_P D vwCl (wF cI h q f_16 p_16 a_16 st_16 n_16 k_16) _ := hP
        have hD : va_D A (wF cI h q f_16 p_16 a_16 st_16 n_16 k_16) := hD
        refine W.eq (g2 := F0 m 19 ls []) rfl ?_
        refine lv_iinc (v := (nI (i + 1))) (lv' := [(3, .int (nI (i + 1))), (0, .ref h), (1, .int b), (2, .int w)]) hx hb dX0_programWord_19 hl (k := 3) rfl (z_inc _ _ rfl) (by decide) rfl (fun ls hl => ?_)
        refine lv_goto (tgt := 2) hx hb dX0_programWord_22 (by decide) ?_
        exact ih_2 (i + 1) f_16 p_16 a_16 st_16 n_16 k_16 _ _ _ (by omega) (by rw [hu_16, z_pwN, ← hy]) (by omega) hP hD hS (lv_sub hl [1, 2, 3, 0] rfl)
  exact lp_2 _ 0 f p a st n k _ _ _ (by omega) rfl (Nat.lt_succ_self _) hP hD hS (lv_sub hl [1, 2, 3, 0] rfl)
abbrev rm_X0_programLowestBit : Room := { frames := 2, cells := 0, slots := 0, locals := 43 }
set_option maxHeartbeats 4000000 in
set_option maxRecDepth 100000 in
theorem k_X0_programLowestBit (l : Launch) (D : va_G) (cI : ClassId) (h q : Nat) (f : RW) (p : Int32) (a : Int32) (st : Int32) (n : Int32) (k : Int32) (i : Int32)  : zMW (S := RW × Int32 × Int32 × Int32 × Int32 × Int32) l D cI yX0_programLowestBit wsX0_programLowestBit rm_X0_programLowestBit [.ref h, .int i] (wF cI h q f p a st n k) (z_plow i (f, p, a, st, n, k)) (fun _ => none) (fun u => wF cI h q u.1 u.2.1 u.2.2.1 u.2.2.2.1 u.2.2.2.2.1 u.2.2.2.2.2) := by
  refine zEntW (cc := cX0_programLowestBit) (maxL := 3) (ret := none) (own := RX0) (lvs := [(0, .ref h), (1, .int i)]) (by decide) rfl rfl (Nat.le_of_ble_eq_true rfl) rfl ?_
  intro p0 e s m args below meth c Q ls A hx hb hml hts hown hP hK hN hD hS hA hl hret hretV
  refine lv_aload_n hx hb dX0_programLowestBit_0 rfl (lv_at hl 0 rfl) ?_
  refine lv_iload_n hx hb dX0_programLowestBit_1 rfl (lv_at hl 1 rfl) ?_
  refine zVR (As := [.int i]) (rest := []) ⟨hx, hb, hml, hown, hts⟩ (k_X0_at l D cI h q f p a st n k i) (cwV 1 hts gX0_programLowestBit_X0_at rfl rfl rfl (by decide +kernel) ⟨Nat.le_of_ble_eq_true rfl, Nat.le_of_ble_eq_true rfl⟩) hP hK hN [0, 1] rfl (va_recv hK hP (ci := 0) (q0 := 0) rfl rfl) rfl hl.1 rfl (Nat.le_of_ble_eq_true rfl) dX0_programLowestBit_2 ⟨Nat.zero_le _, Nat.zero_le _⟩ ?_
  refine lv_istore_n (lv' := [(2, .int (z_at f i)), (0, .ref h), (1, .int i)]) hx hb dX0_programLowestBit_5 rfl hl (by decide) rfl (fun ls hl => ?_)
  refine lv_aload_n hx hb dX0_programLowestBit_6 rfl (lv_at hl 1 rfl) ?_
  refine lv_iload_n hx hb dX0_programLowestBit_7 rfl (lv_at hl 2 rfl) ?_
  refine lv_iload_n hx hb dX0_programLowestBit_8 rfl (lv_at hl 0 rfl) ?_
  refine lv_iload_n hx hb dX0_programLowestBit_9 rfl (lv_at hl 0 rfl) ?_
  refine lv_iconst (v := 1) hx hb dX0_programLowestBit_10 (by decide) ?_
  refine lv_isub hx hb dX0_programLowestBit_11 ?_
  refine lv_iand hx hb dX0_programLowestBit_12 ?_
  refine zVW (ws' := fun u => wF cI h q u.1 u.2.1 u.2.2.1 u.2.2.2.1 u.2.2.2.2.1 u.2.2.2.2.2) (As := [.int i, .int ((z_at f i) &&& ((z_at f i) - 1))]) (rest := []) ⟨hx, hb, hml, hown, hts⟩ (k_X0_program l D cI h q f p a st n k i ((z_at f i) &&& ((z_at f i) - 1))) (cwV 2 hts gX0_programLowestBit_X0_program rfl rfl rfl (by decide +kernel) ⟨Nat.le_of_ble_eq_true rfl, Nat.le_of_ble_eq_true rfl⟩) hP hK hN hD hS hA [0, 1] [] rfl (by decide) (fun _ => rfl) (fun _ => rfl) (fun _ => rfl) rfl (va_recv hK hP (ci := 0) (q0 := 0) rfl rfl) rfl hl.1 rfl (Nat.le_of_ble_eq_true rfl) dX0_programLowestBit_13 ⟨Nat.zero_le _, Nat.zero_le _⟩ (fun u_13 H locs hu_13 hP hD hS => ?_)
  obtain ⟨f_13, p_13, a_13, st_13, n_13, k_13⟩ := u_13
  have hP : va_P D vwCl (wF cI h q f_13 p_13 a_13 st_13 n_13 k_13) _ := hP
  have hD : va_D A (wF cI h q f_13 p_13 a_13 st_13 n_13 k_13) := hD
  refine W.eq (g2 := F0 m 16 ls []) rfl ?_
  exact hretV 16 ls _ _ (f_13, p_13, a_13, st_13, n_13, k_13) dX0_programLowestBit_16 rfl rfl (by first | (simp only [z_plow, ← hu_13]; done) | rfl) hP hS
abbrev rm_X0_word : Room := { frames := 1, cells := 0, slots := 0, locals := 21 }
set_option maxHeartbeats 4000000 in
set_option maxRecDepth 100000 in
theorem k_X0_word (l : Launch) (D : va_G) (cI : ClassId) (h q : Nat) (f : RW) (p : Int32) (a : Int32) (st : Int32) (n : Int32) (k : Int32) (b : Int32)  : zMR l D cI yX0_word wsX0_word rm_X0_word [.ref h, .int b] (wF cI h q f p a st n k) (.int (z_word f b)) := by
  refine zEntR (cc := cX0_word) (maxL := 4) (ret := (some .int)) (own := RX0) (lvs := [(0, .ref h), (1, .int b)]) (by decide) rfl rfl rfl rfl (Nat.le_of_ble_eq_true rfl) rfl ?_
  intro p0 e s m args below meth c Q ls hx hb hml hts hown hP hK hN hl hret hretA
  refine lv_iconst (v := 0) hx hb dX0_word_0 (by decide) ?_
  refine lv_istore_n (lv' := [(2, .int 0), (0, .ref h), (1, .int b)]) hx hb dX0_word_1 rfl hl (by decide) rfl (fun ls hl => ?_)
  refine lv_iconst (v := 0) hx hb dX0_word_2 (by decide) ?_
  refine lv_istore_n (lv' := [(3, .int 0), (2, .int 0), (0, .ref h), (1, .int b)]) hx hb dX0_word_3 rfl hl (by decide) rfl (fun ls hl => ?_)
  have lp_4 : ∀ (g_4 : Nat) (i : Nat) (ls : Array Slot), i ≤ 4 → 4 - i < g_4 → lv_has ls 4 [(0, .ref h), (1, .int b), (2, .int (z_wordN f b i)), (3, .int (nI i))] → W p0 l e rm_X0_word s m args below meth c s.heap [] 0 0 Q (F0 m 4 ls []) := by
    intro g_4
    induction g_4 with
    | zero => intro i ls h1 h9_4; exact absurd h9_4 (Nat.not_lt_zero _)
    | succ g_4 ih_4 =>
      intro i ls h1 h9_4 hl
      refine lv_iload_n hx hb dX0_word_4 rfl (lv_at hl 3 rfl) ?_
      refine lv_iconst (v := 4) hx hb dX0_word_5 (by decide) ?_
      refine z_icmp_ge (tgt := 28) hx hb dX0_word_6 (by decide) i 4 rfl rfl (by omega) (by omega) (fun c_6 => ?_) (fun c_6 => ?_)
      · -- 6 t
        refine lv_iload_n hx hb dX0_word_28 rfl (lv_at hl 2 rfl) ?_
        exact hret 29 ls (z_wordN f b i) _ dX0_word_29 rfl rfl (congrArg Value.int (by rw [z_word, show 4 = i by omega]))
      · -- 6 f
        refine lv_iload_n hx hb dX0_word_9 rfl (lv_at hl 2 rfl) ?_
        refine lv_bipush (v := 8) hx hb dX0_word_10 (by decide) ?_
        refine lv_ishl hx hb dX0_word_12 ?_
        refine lv_aload_n hx hb dX0_word_13 rfl (lv_at hl 0 rfl) ?_
        refine lv_iload_n hx hb dX0_word_14 rfl (lv_at hl 1 rfl) ?_
        refine lv_iload_n hx hb dX0_word_15 rfl (lv_at hl 3 rfl) ?_
        refine lv_iadd hx hb dX0_word_16 ?_
        refine zVR (As := [.int (b + (nI i))]) (rest := [.int ((z_wordN f b i) <<< (8 &&& 31))]) ⟨hx, hb, hml, hown, hts⟩ (k_X0_at l D cI h q f p a st n k (b + (nI i))) (cwV 1 hts gX0_word_X0_at rfl rfl rfl (by decide +kernel) ⟨Nat.le_of_ble_eq_true rfl, Nat.le_of_ble_eq_true rfl⟩) hP hK hN [0, 1] rfl (va_recv hK hP (ci := 0) (q0 := 0) rfl rfl) rfl hl.1 rfl (Nat.le_of_ble_eq_true rfl) dX0_word_17 ⟨Nat.zero_le _, Nat.zero_le _⟩ ?_
        refine lv_ior hx hb dX0_word_20 ?_
        refine lv_istore_n (lv' := [(2, .int (((z_wordN f b i) <<< (8 &&& 31)) ||| (z_at f (b + (nI i))))), (0, .ref h), (1, .int b), (3, .int (nI i))]) hx hb dX0_word_21 rfl hl (by decide) rfl (fun ls hl => ?_)
        refine lv_iinc (v := (nI (i + 1))) (lv' := [(3, .int (nI (i + 1))), (2, .int (((z_wordN f b i) <<< (8 &&& 31)) ||| (z_at f (b + (nI i))))), (0, .ref h), (1, .int b)]) hx hb dX0_word_22 hl (k := 3) rfl (z_inc _ _ rfl) (by decide) rfl (fun ls hl => ?_)
        refine lv_goto (tgt := 4) hx hb dX0_word_25 (by decide) ?_
        exact ih_4 (i + 1) _ (by omega) (by omega) (lv_sub hl [2, 3, 1, 0] rfl)
  exact lp_4 _ 0 _ (by omega) (Nat.lt_succ_self _) (lv_sub hl [2, 3, 1, 0] rfl)
abbrev rm_X0_digestOf : Room := { frames := 1, cells := 0, slots := 0, locals := 22 }
set_option maxRecDepth 20000 in
theorem qX0_digestOf_8 : (Cond.initialized RX5 : Cond) ∈ wsX0_digestOf := List.mem_of_getElem? (i := 8) rfl
set_option maxRecDepth 20000 in
theorem qX0_digestOf_7 : (Cond.static yX5_digestByte : Cond) ∈ wsX0_digestOf := List.mem_of_getElem? (i := 7) rfl
set_option maxHeartbeats 4000000 in
set_option maxRecDepth 100000 in
theorem k_X0_digestOf (l : Launch) (D : va_G) (cI : ClassId) (h q : Nat) (f : RW) (p : Int32) (a : Int32) (st : Int32) (n : Int32) (k : Int32) (b : Int32) (len : Int32)  : zMR l D cI yX0_digestOf wsX0_digestOf rm_X0_digestOf [.ref h, .int b, .int len] (wF cI h q f p a st n k) (.int (z_digO f b len)) := by
  refine zEntR (cc := cX0_digestOf) (maxL := 5) (ret := (some .int)) (own := RX0) (lvs := [(0, .ref h), (1, .int b), (2, .int len)]) (by decide) rfl rfl rfl rfl (Nat.le_of_ble_eq_true rfl) rfl ?_
  intro p0 e s m args below meth c Q ls hx hb hml hts hown hP hK hN hl hret hretA
  refine lv_iconst (v := 0) hx hb dX0_digestOf_0 (by decide) ?_
  refine lv_istore_n (lv' := [(3, .int 0), (0, .ref h), (1, .int b), (2, .int len)]) hx hb dX0_digestOf_1 rfl hl (by decide) rfl (fun ls hl => ?_)
  refine lv_iconst (v := 0) hx hb dX0_digestOf_2 (by decide) ?_
  refine lv_istore (lv' := [(4, .int 0), (3, .int 0), (0, .ref h), (1, .int b), (2, .int len)]) hx hb dX0_digestOf_3 hl (by decide) rfl (fun ls hl => ?_)
  have lp_5 : ∀ (g_5 : Nat) (i : Nat) (ls : Array Slot), i ≤ len.toNatClampNeg → len.toNatClampNeg - i < g_5 → lv_has ls 5 [(0, .ref h), (1, .int b), (2, .int len), (3, .int (z_digN f b i)), (4, .int (nI i))] → W p0 l e rm_X0_digestOf s m args below meth c s.heap [] 0 0 Q (F0 m 5 ls []) := by
    intro g_5
    induction g_5 with
    | zero => intro i ls h1 h9_5; exact absurd h9_5 (Nat.not_lt_zero _)
    | succ g_5 ih_5 =>
      intro i ls h1 h9_5 hl
      refine lv_iload hx hb dX0_digestOf_5 (lv_at hl 4 rfl) ?_
      refine lv_iload_n hx hb dX0_digestOf_7 rfl (lv_at hl 2 rfl) ?_
      have h8 := z_clamp len
      refine z_icmp_geC (tgt := 30) hx hb dX0_digestOf_8 (by decide) i rfl (by omega) (fun c_8 => ?_) (fun c_8 => ?_)
      · -- 8 t
        refine lv_iload_n hx hb dX0_digestOf_30 rfl (lv_at hl 3 rfl) ?_
        exact hret 31 ls (z_digN f b i) _ dX0_digestOf_31 rfl rfl (congrArg Value.int (by rw [z_digO, show len.toNatClampNeg = i by omega]))
      · -- 8 f
        refine lv_iload_n hx hb dX0_digestOf_11 rfl (lv_at hl 3 rfl) ?_
        refine lv_aload_n hx hb dX0_digestOf_12 rfl (lv_at hl 0 rfl) ?_
        refine lv_iload_n hx hb dX0_digestOf_13 rfl (lv_at hl 1 rfl) ?_
        refine lv_iload hx hb dX0_digestOf_14 (lv_at hl 4 rfl) ?_
        refine lv_iadd hx hb dX0_digestOf_16 ?_
        refine zVR (As := [.int (b + (nI i))]) (rest := [.int (z_digN f b i)]) ⟨hx, hb, hml, hown, hts⟩ (k_X0_at l D cI h q f p a st n k (b + (nI i))) (cwV 1 hts gX0_digestOf_X0_at rfl rfl rfl (by decide +kernel) ⟨Nat.le_of_ble_eq_true rfl, Nat.le_of_ble_eq_true rfl⟩) hP hK hN [0, 1] rfl (va_recv hK hP (ci := 0) (q0 := 0) rfl rfl) rfl hl.1 rfl (Nat.le_of_ble_eq_true rfl) dX0_digestOf_17 ⟨Nat.zero_le _, Nat.zero_le _⟩ ?_
        refine zNR (As := [.int (z_digN f b i), .int (z_at f (b + (nI i)))]) (rest := []) ⟨hx, hb, hml, hown, hts⟩ (k_X5_digestByte l D cI (z_digN f b i) (z_at f (b + (nI i)))) ⟨va_cnB 2 hts gX0_digestOf_X5_digestByte_n48 rfl rfl rfl (zN_at hN 16 rfl) (hts _ qX0_digestOf_8) (by decide +kernel) ⟨Nat.le_of_ble_eq_true rfl, Nat.le_of_ble_eq_true rfl⟩, hts _ qX0_digestOf_7, trivial⟩ hP hK hN [] rfl rfl hl.1 rfl (Nat.le_of_ble_eq_true rfl) dX0_digestOf_20 ⟨Nat.zero_le _, Nat.zero_le _⟩ ?_
        refine lv_istore_n (lv' := [(3, .int (z_digB (z_digN f b i) (z_at f (b + (nI i))))), (0, .ref h), (1, .int b), (2, .int len), (4, .int (nI i))]) hx hb dX0_digestOf_23 rfl hl (by decide) rfl (fun ls hl => ?_)
        refine lv_iinc (v := (nI (i + 1))) (lv' := [(4, .int (nI (i + 1))), (3, .int (z_digB (z_digN f b i) (z_at f (b + (nI i))))), (0, .ref h), (1, .int b), (2, .int len)]) hx hb dX0_digestOf_24 hl (k := 4) rfl (z_inc _ _ rfl) (by decide) rfl (fun ls hl => ?_)
        refine lv_goto (tgt := 5) hx hb dX0_digestOf_27 (by decide) ?_
        exact ih_5 (i + 1) _ (by omega) (by omega) (lv_sub hl [2, 3, 4, 1, 0] rfl)
  exact lp_5 _ 0 _ (Nat.zero_le _) (Nat.lt_succ_self _) (lv_sub hl [2, 3, 4, 1, 0] rfl)
end
section
-- slots, the manifest, the tape, the patch
def z_sConf (hd : Int32) (f : RW) : Int32 := if z_at f (hd + 7) = 0 then 1 else 0
def z_sTrial (hd : Int32) (f : RW) : Int32 := if z_sConf hd f = 0 then (if z_at f (hd + 6) = 0 then 0 else 1) else 0
def z_sWhole (hd : Int32) (f : RW) : Int32 := if z_at f (hd + 8) = 0 then 1 else 0
def z_sGood (sd hd : Int32) (f : RW) (least : Int32) : Int32 :=
  if z_sWhole hd f = 0 then 0 else if z_isLen (z_at f hd) = 0 then 0 else if z_at f (hd + 1) < least then 0 else if z_digO f sd (z_at f hd) = z_word f (hd + 2) then 1 else 0
def z_eImgN (fp : Nat) (F : FS) : Nat → FS
  | 0 => F
  | i + 1 => z_erase (fp + i) (z_eImgN fp F i)
def z_eImg (fp : Nat) (F : FS) : FS := z_eImgN fp F 6
def z_name (hd len seq dig : Int32) (F : FS) : FS := z_pw (hd + 2) dig (z_prog (hd + 1) seq (z_prog hd len F))
def z_mwordN (ob : RW) (b : Nat) : Nat → Int32
  | 0 => 0
  | i + 1 => (z_mwordN ob b i <<< (8 &&& 31)) ||| ob (b + i)
def z_mword (ob : RW) (b : Nat) : Int32 := z_mwordN ob b 4
def z_mRange (ob : RW) : Int32 := if z_isSeq (ob 1) = 0 then 0 else if z_isLen (ob 6) = 0 then 0 else if z_isLen (ob 11) = 0 then 0 else 1
def z_mTag (ob K : RW) : Int32 := if z_dig (z_dig 0 K 8 8) ob 20 16 = z_mword ob 16 then 1 else 0
def z_rdPN (f ob : RW) : Nat → RW
  | 0 => ob
  | i + 1 => upd (z_rdPN f ob i) i (z_at f (nI (640 + i)))
def z_rdP (f ob : RW) : RW := z_rdPN f ob 20
def z_rdT (tb ob : RW) : RW := va_cpy tb ob (0 : Int32).toNatClampNeg (0 : Int32).toNatClampNeg (20 : Int32).toNatClampNeg
def z_standN (f ob : RW) : Nat → Nat → Int32
  | 0, _ => 1
  | d + 1, i => if ob i = z_at f (nI (640 + i)) then z_standN f ob d (i + 1) else 0
def z_stand (f ob : RW) : Int32 := z_standN f ob 20 0
def z_tbyte (x : Int64) (m : Nat) : Int32 := Int64.toInt32 (zlushr x (nI (8 * m))) &&& 255
def z_addN (x : Int64) : Nat → RW → Nat → RW
  | 0, tb, _ => tb
  | m + 1, tb, t => z_addN x m (upd tb t (z_tbyte x m)) (t + 1)
def z_add (x : Int64) (nn : Nat) : RW × Nat → Int32 × RW × Nat
  | (tb, t) => if t + nn ≤ 192 then (1, z_addN x nn tb t, t + nn) else (0, tb, t)
def z_takeN (f : RW) (fr : Nat) (im : RW) (md : Nat) : Nat → RW
  | 0 => im
  | i + 1 => upd (z_takeN f fr im md i) (md + i) (z_at f (nI (fr + i)))
def z_take (f : RW) (fr ct : Nat) : RW × Nat → Int32 × RW × Nat
  | (im, md) => if md + ct ≤ 192 then (1, z_takeN f fr im md ct, md + ct) else (0, im, md)
def z_takeB2 : Int32 × RW × Nat → Int32 × RW × Nat
  | (r, im, md) => if r = 0 then (0, im, md) else (1, im, md)
def z_takeB (f : RW) (bs bl pl ct : Nat) : RW × Nat → Int32 × RW × Nat
  | (im, md) => if bl < pl + ct then (0, im, md) else z_takeB2 (z_take f (bs + pl) ct (im, md))
def zb (f : RW) (i : Nat) : Nat := (f i).toNatClampNeg
def zbOk (f : RW) : Prop := ∀ j, j < 768 → f j = nI (zb f j) ∧ zb f j < 256
def z_unfN (f : RW) (pn bs bl : Nat) : Nat → Nat → RW × Nat → Int32 × RW × Nat
  | 0, _, (im, md) => (0, im, md)
  | g + 1, i, (im, md) => if pn ≤ i then (1, im, md) else
      if zb f (448 + i) < 128 then
        (if pn < i + (1 + (zb f (448 + i) + 1)) then (0, im, md) else
          match z_take f (448 + i + 1) (zb f (448 + i) + 1) (im, md) with
          | (r, im1, md1) => if r = 0 then (0, im1, md1) else z_unfN f pn bs bl g (i + (1 + (zb f (448 + i) + 1))) (im1, md1))
      else
        (if pn < i + 2 then (0, im, md) else
          match z_takeB f bs bl (zb f (448 + i + 1)) (zb f (448 + i) - 128 + 1) (im, md) with
          | (r, im1, md1) => if r = 0 then (0, im1, md1) else z_unfN f pn bs bl g (i + 2) (im1, md1))
def z_unf (f : RW) (pn bs bl : Nat) (im : RW) : Int32 × RW × Nat := z_unfN f pn bs bl (pn + 1) 0 (im, 0)
theorem z_atIn {f : RW} {i : Nat} (h : i < 768) : z_at f (nI i) = f i := by
  rw [z_at, if_neg (nI_pos (by omega)), if_neg (show ¬ (768 : Int32) ≤ nI i from fun q => absurd ((nI_leI (a := 768) (b := i) (by omega) (by omega)).mp q) (by omega)), nI_clamp (by omega)]
theorem z_atB {f : RW} (h : zbOk f) {i : Nat} (hi : i < 768) : z_at f (nI i) = nI (zb f i) := by rw [z_atIn hi]; exact (h i hi).1
theorem z_sub1 {a b : Nat} (h : b ≤ a) : nI a - nI b = nI (a - b) := pk_sub h
theorem z_dec (m : Nat) : nI (m + 1) - 1 = nI m := nI_pred m
theorem z_decM (m : Nat) : nI (m + 1) + Int32.ofInt (-1) = nI m := pk_m1 m
theorem z_addm1 (x : Int32) : x + Int32.ofInt (-1) = x - 1 := by rw [Int32.sub_eq_add_neg]; rfl
theorem z_take_le {f : RW} {fr ct md md1 : Nat} {im im1 : RW} {r : Int32} (h : (r, im1, md1) = z_take f fr ct (im, md)) (hm : md ≤ 192) : md1 ≤ 192 := by
  rw [z_take] at h
  split at h
  · cases h; assumption
  · cases h; exact hm
theorem z_takeB_le {f : RW} {bs bl pl ct md md1 : Nat} {im im1 : RW} {r : Int32} (h : (r, im1, md1) = z_takeB f bs bl pl ct (im, md)) (hm : md ≤ 192) : md1 ≤ 192 := by
  rw [z_takeB] at h
  split at h
  · cases h; exact hm
  · cases h1 : z_take f (bs + pl) ct (im, md) with
    | mk a b =>
      obtain ⟨b, c⟩ := b
      have h2 := z_take_le h1.symm hm
      rw [h1, z_takeB2] at h
      split at h <;> (cases h; exact h2)
abbrev rm_X3_length : Room := { frames := 1, cells := 0, slots := 0, locals := 21 }
set_option maxRecDepth 20000 in
theorem qX3_length_1 : (Cond.fieldLink RX3 18 "FlashBoot$Slot" "header" "I" : Cond) ∈ wsX3_length := List.mem_of_getElem? (i := 1) rfl
set_option maxRecDepth 20000 in
theorem iX3_length_X3 : ∀ w ∈ wsX30, w ∈ wsX3_length := by decide +kernel
set_option maxHeartbeats 4000000 in
set_option maxRecDepth 100000 in
theorem k_X3_length (l : Launch) (D : va_G) (cI : ClassId) (g h q : Nat) (fp : Nat) (sd : Int32) (hd : Int32) (f : RW) (p : Int32) (a : Int32) (st : Int32) (n : Int32) (k : Int32)   : zMR l D cI yX3_length wsX3_length rm_X3_length [.ref g, .ref h] (wS cI g h q fp sd hd f p a st n k) (.int (z_at f hd)) := by
  refine zEntR (cc := cX3_length) (maxL := 2) (ret := (some .int)) (own := RX3) (lvs := [(0, .ref g), (1, .ref h)]) (by decide) rfl rfl rfl rfl (Nat.le_of_ble_eq_true rfl) rfl ?_
  intro p0 e s m args below meth c Q ls hx hb hml hts hown hP hK hN hl hret hretA
  refine lv_aload_n hx hb dX3_length_0 rfl (lv_at hl 1 rfl) ?_
  refine lv_aload_n hx hb dX3_length_1 rfl (lv_at hl 0 rfl) ?_
  refine va_get (D := D) (ci := 3) (v := .int hd) (C := RX3) (T := TX3) (N := 3) hx hb hts iX3_length_X3 hown hK hP 0 rfl rfl 2 (by decide) (hts _ qX3_length_1) (fun _ h9 => h9) rfl dX3_length_2 ?_
  refine zVR (As := [.int hd]) (rest := []) ⟨hx, hb, hml, hown, hts⟩ (k_X0_at l D cI h q f p a st n k hd) (cwV 1 hts gX3_length_X0_at rfl rfl rfl (by decide +kernel) ⟨Nat.le_of_ble_eq_true rfl, Nat.le_of_ble_eq_true rfl⟩) hP hK hN [1, 2] rfl (va_recv hK hP (ci := 0) (q0 := 1) rfl rfl) rfl hl.1 rfl (Nat.le_of_ble_eq_true rfl) dX3_length_5 ⟨Nat.zero_le _, Nat.zero_le _⟩ ?_
  exact hret 8 ls (z_at f hd) _ dX3_length_8 rfl rfl (congrArg Value.int (by rfl))
abbrev rm_X3_sequence : Room := { frames := 1, cells := 0, slots := 0, locals := 21 }
set_option maxRecDepth 20000 in
theorem qX3_sequence_1 : (Cond.fieldLink RX3 18 "FlashBoot$Slot" "header" "I" : Cond) ∈ wsX3_sequence := List.mem_of_getElem? (i := 1) rfl
set_option maxRecDepth 20000 in
theorem iX3_sequence_X3 : ∀ w ∈ wsX30, w ∈ wsX3_sequence := by decide +kernel
set_option maxHeartbeats 4000000 in
set_option maxRecDepth 100000 in
theorem k_X3_sequence (l : Launch) (D : va_G) (cI : ClassId) (g h q : Nat) (fp : Nat) (sd : Int32) (hd : Int32) (f : RW) (p : Int32) (a : Int32) (st : Int32) (n : Int32) (k : Int32)   : zMR l D cI yX3_sequence wsX3_sequence rm_X3_sequence [.ref g, .ref h] (wS cI g h q fp sd hd f p a st n k) (.int (z_at f (hd + 1))) := by
  refine zEntR (cc := cX3_sequence) (maxL := 2) (ret := (some .int)) (own := RX3) (lvs := [(0, .ref g), (1, .ref h)]) (by decide) rfl rfl rfl rfl (Nat.le_of_ble_eq_true rfl) rfl ?_
  intro p0 e s m args below meth c Q ls hx hb hml hts hown hP hK hN hl hret hretA
  refine lv_aload_n hx hb dX3_sequence_0 rfl (lv_at hl 1 rfl) ?_
  refine lv_aload_n hx hb dX3_sequence_1 rfl (lv_at hl 0 rfl) ?_
  refine va_get (D := D) (ci := 3) (v := .int hd) (C := RX3) (T := TX3) (N := 3) hx hb hts iX3_sequence_X3 hown hK hP 0 rfl rfl 2 (by decide) (hts _ qX3_sequence_1) (fun _ h9 => h9) rfl dX3_sequence_2 ?_
  refine lv_iconst (v := 1) hx hb dX3_sequence_5 (by decide) ?_
  refine lv_iadd hx hb dX3_sequence_6 ?_
  refine zVR (As := [.int (hd + 1)]) (rest := []) ⟨hx, hb, hml, hown, hts⟩ (k_X0_at l D cI h q f p a st n k (hd + 1)) (cwV 1 hts gX3_sequence_X0_at rfl rfl rfl (by decide +kernel) ⟨Nat.le_of_ble_eq_true rfl, Nat.le_of_ble_eq_true rfl⟩) hP hK hN [1, 2] rfl (va_recv hK hP (ci := 0) (q0 := 1) rfl rfl) rfl hl.1 rfl (Nat.le_of_ble_eq_true rfl) dX3_sequence_7 ⟨Nat.zero_le _, Nat.zero_le _⟩ ?_
  exact hret 10 ls (z_at f (hd + 1)) _ dX3_sequence_10 rfl rfl (congrArg Value.int (by rfl))
abbrev rm_X3_digest : Room := { frames := 2, cells := 0, slots := 0, locals := 44 }
set_option maxRecDepth 20000 in
theorem qX3_digest_1 : (Cond.fieldLink RX3 18 "FlashBoot$Slot" "header" "I" : Cond) ∈ wsX3_digest := List.mem_of_getElem? (i := 1) rfl
set_option maxRecDepth 20000 in
theorem iX3_digest_X3 : ∀ w ∈ wsX30, w ∈ wsX3_digest := by decide +kernel
set_option maxHeartbeats 4000000 in
set_option maxRecDepth 100000 in
theorem k_X3_digest (l : Launch) (D : va_G) (cI : ClassId) (g h q : Nat) (fp : Nat) (sd : Int32) (hd : Int32) (f : RW) (p : Int32) (a : Int32) (st : Int32) (n : Int32) (k : Int32)   : zMR l D cI yX3_digest wsX3_digest rm_X3_digest [.ref g, .ref h] (wS cI g h q fp sd hd f p a st n k) (.int (z_word f (hd + 2))) := by
  refine zEntR (cc := cX3_digest) (maxL := 2) (ret := (some .int)) (own := RX3) (lvs := [(0, .ref g), (1, .ref h)]) (by decide) rfl rfl rfl rfl (Nat.le_of_ble_eq_true rfl) rfl ?_
  intro p0 e s m args below meth c Q ls hx hb hml hts hown hP hK hN hl hret hretA
  refine lv_aload_n hx hb dX3_digest_0 rfl (lv_at hl 1 rfl) ?_
  refine lv_aload_n hx hb dX3_digest_1 rfl (lv_at hl 0 rfl) ?_
  refine va_get (D := D) (ci := 3) (v := .int hd) (C := RX3) (T := TX3) (N := 3) hx hb hts iX3_digest_X3 hown hK hP 0 rfl rfl 2 (by decide) (hts _ qX3_digest_1) (fun _ h9 => h9) rfl dX3_digest_2 ?_
  refine lv_iconst (v := 2) hx hb dX3_digest_5 (by decide) ?_
  refine lv_iadd hx hb dX3_digest_6 ?_
  refine zVR (As := [.int (hd + 2)]) (rest := []) ⟨hx, hb, hml, hown, hts⟩ (k_X0_word l D cI h q f p a st n k (hd + 2)) (cwV 1 hts gX3_digest_X0_word rfl rfl rfl (by decide +kernel) ⟨Nat.le_of_ble_eq_true rfl, Nat.le_of_ble_eq_true rfl⟩) hP hK hN [1, 2] rfl (va_recv hK hP (ci := 0) (q0 := 1) rfl rfl) rfl hl.1 rfl (Nat.le_of_ble_eq_true rfl) dX3_digest_7 ⟨Nat.zero_le _, Nat.zero_le _⟩ ?_
  exact hret 10 ls (z_word f (hd + 2)) _ dX3_digest_10 rfl rfl (congrArg Value.int (by rfl))
abbrev rm_X3_isConfirmed : Room := { frames := 1, cells := 0, slots := 0, locals := 21 }
set_option maxRecDepth 20000 in
theorem qX3_isConfirmed_1 : (Cond.fieldLink RX3 18 "FlashBoot$Slot" "header" "I" : Cond) ∈ wsX3_isConfirmed := List.mem_of_getElem? (i := 1) rfl
set_option maxRecDepth 20000 in
theorem iX3_isConfirmed_X3 : ∀ w ∈ wsX30, w ∈ wsX3_isConfirmed := by decide +kernel
set_option maxHeartbeats 4000000 in
set_option maxRecDepth 100000 in
theorem k_X3_isConfirmed (l : Launch) (D : va_G) (cI : ClassId) (g h q : Nat) (fp : Nat) (sd : Int32) (hd : Int32) (f : RW) (p : Int32) (a : Int32) (st : Int32) (n : Int32) (k : Int32)   : zMR l D cI yX3_isConfirmed wsX3_isConfirmed rm_X3_isConfirmed [.ref g, .ref h] (wS cI g h q fp sd hd f p a st n k) (.int (z_sConf hd f)) := by
  refine zEntR (cc := cX3_isConfirmed) (maxL := 2) (ret := (some .boolean)) (own := RX3) (lvs := [(0, .ref g), (1, .ref h)]) (by decide) rfl rfl rfl rfl (Nat.le_of_ble_eq_true rfl) rfl ?_
  intro p0 e s m args below meth c Q ls hx hb hml hts hown hP hK hN hl hret hretA
  refine lv_aload_n hx hb dX3_isConfirmed_0 rfl (lv_at hl 1 rfl) ?_
  refine lv_aload_n hx hb dX3_isConfirmed_1 rfl (lv_at hl 0 rfl) ?_
  refine va_get (D := D) (ci := 3) (v := .int hd) (C := RX3) (T := TX3) (N := 3) hx hb hts iX3_isConfirmed_X3 hown hK hP 0 rfl rfl 2 (by decide) (hts _ qX3_isConfirmed_1) (fun _ h9 => h9) rfl dX3_isConfirmed_2 ?_
  refine lv_bipush (v := 7) hx hb dX3_isConfirmed_5 (by decide) ?_
  refine lv_iadd hx hb dX3_isConfirmed_7 ?_
  refine zVR (As := [.int (hd + 7)]) (rest := []) ⟨hx, hb, hml, hown, hts⟩ (k_X0_at l D cI h q f p a st n k (hd + 7)) (cwV 1 hts gX3_isConfirmed_X0_at rfl rfl rfl (by decide +kernel) ⟨Nat.le_of_ble_eq_true rfl, Nat.le_of_ble_eq_true rfl⟩) hP hK hN [1, 2] rfl (va_recv hK hP (ci := 0) (q0 := 1) rfl rfl) rfl hl.1 rfl (Nat.le_of_ble_eq_true rfl) dX3_isConfirmed_8 ⟨Nat.zero_le _, Nat.zero_le _⟩ ?_
  refine lv_if_ne (tgt := 18) hx hb dX3_isConfirmed_11 (by decide) (fun c_11 => ?_) (fun c_11 => ?_)
  · -- 11 t
    refine lv_iconst (v := 0) hx hb dX3_isConfirmed_18 (by decide) ?_
    exact hret 19 ls 0 _ dX3_isConfirmed_19 rfl rfl (congrArg Value.int (by first | (simp only [z_sConf, if_neg c_11]; done) | rfl))
  · -- 11 f
    refine lv_iconst (v := 1) hx hb dX3_isConfirmed_14 (by decide) ?_
    refine lv_goto (tgt := 19) hx hb dX3_isConfirmed_15 (by decide) ?_
    exact hret 19 ls 1 _ dX3_isConfirmed_19 rfl rfl (congrArg Value.int (by first | (simp only [z_sConf, if_pos c_11]; done) | rfl))
abbrev rm_X3_isOnTrial : Room := { frames := 2, cells := 0, slots := 0, locals := 42 }
set_option maxRecDepth 20000 in
theorem qX3_isOnTrial_1 : (Cond.fieldLink RX3 18 "FlashBoot$Slot" "header" "I" : Cond) ∈ wsX3_isOnTrial := List.mem_of_getElem? (i := 1) rfl
set_option maxRecDepth 20000 in
theorem iX3_isOnTrial_X3 : ∀ w ∈ wsX30, w ∈ wsX3_isOnTrial := by decide +kernel
set_option maxHeartbeats 4000000 in
set_option maxRecDepth 100000 in
theorem k_X3_isOnTrial (l : Launch) (D : va_G) (cI : ClassId) (g h q : Nat) (fp : Nat) (sd : Int32) (hd : Int32) (f : RW) (p : Int32) (a : Int32) (st : Int32) (n : Int32) (k : Int32)   : zMR l D cI yX3_isOnTrial wsX3_isOnTrial rm_X3_isOnTrial [.ref g, .ref h] (wS cI g h q fp sd hd f p a st n k) (.int (z_sTrial hd f)) := by
  refine zEntR (cc := cX3_isOnTrial) (maxL := 2) (ret := (some .boolean)) (own := RX3) (lvs := [(0, .ref g), (1, .ref h)]) (by decide) rfl rfl rfl rfl (Nat.le_of_ble_eq_true rfl) rfl ?_
  intro p0 e s m args below meth c Q ls hx hb hml hts hown hP hK hN hl hret hretA
  refine lv_aload_n hx hb dX3_isOnTrial_0 rfl (lv_at hl 0 rfl) ?_
  refine lv_aload_n hx hb dX3_isOnTrial_1 rfl (lv_at hl 1 rfl) ?_
  refine zVR (As := [.ref h]) (rest := []) ⟨hx, hb, hml, hown, hts⟩ (k_X3_isConfirmed l D cI g h q fp sd hd f p a st n k) (cwV 1 hts gX3_isOnTrial_X3_isConfirmed rfl rfl rfl (by decide +kernel) ⟨Nat.le_of_ble_eq_true rfl, Nat.le_of_ble_eq_true rfl⟩) hP hK hN [0, 1, 2] rfl (va_recv hK hP (ci := 3) (q0 := 0) rfl rfl) rfl hl.1 rfl (Nat.le_of_ble_eq_true rfl) dX3_isOnTrial_2 ⟨Nat.zero_le _, Nat.zero_le _⟩ ?_
  refine lv_if_ne (tgt := 26) hx hb dX3_isOnTrial_5 (by decide) (fun c_5 => ?_) (fun c_5 => ?_)
  · -- 5 t
    refine lv_iconst (v := 0) hx hb dX3_isOnTrial_26 (by decide) ?_
    exact hret 27 ls 0 _ dX3_isOnTrial_27 rfl rfl (congrArg Value.int (by first | (simp only [z_sTrial, if_neg c_5]; done) | rfl))
  · -- 5 f
    refine lv_aload_n hx hb dX3_isOnTrial_8 rfl (lv_at hl 1 rfl) ?_
    refine lv_aload_n hx hb dX3_isOnTrial_9 rfl (lv_at hl 0 rfl) ?_
    refine va_get (D := D) (ci := 3) (v := .int hd) (C := RX3) (T := TX3) (N := 3) hx hb hts iX3_isOnTrial_X3 hown hK hP 0 rfl rfl 2 (by decide) (hts _ qX3_isOnTrial_1) (fun _ h9 => h9) rfl dX3_isOnTrial_10 ?_
    refine lv_bipush (v := 6) hx hb dX3_isOnTrial_13 (by decide) ?_
    refine lv_iadd hx hb dX3_isOnTrial_15 ?_
    refine zVR (As := [.int (hd + 6)]) (rest := []) ⟨hx, hb, hml, hown, hts⟩ (k_X0_at l D cI h q f p a st n k (hd + 6)) (cwV 1 hts gX3_isOnTrial_X0_at rfl rfl rfl (by decide +kernel) ⟨Nat.le_of_ble_eq_true rfl, Nat.le_of_ble_eq_true rfl⟩) hP hK hN [1, 2] rfl (va_recv hK hP (ci := 0) (q0 := 1) rfl rfl) rfl hl.1 rfl (Nat.le_of_ble_eq_true rfl) dX3_isOnTrial_16 ⟨Nat.zero_le _, Nat.zero_le _⟩ ?_
    refine lv_if_eq (tgt := 26) hx hb dX3_isOnTrial_19 (by decide) (fun c_19 => ?_) (fun c_19 => ?_)
    · -- 19 t
      refine lv_iconst (v := 0) hx hb dX3_isOnTrial_26 (by decide) ?_
      exact hret 27 ls 0 _ dX3_isOnTrial_27 rfl rfl (congrArg Value.int (by first | (simp only [z_sTrial, if_pos c_5, if_pos c_19]; done) | rfl))
    · -- 19 f
      refine lv_iconst (v := 1) hx hb dX3_isOnTrial_22 (by decide) ?_
      refine lv_goto (tgt := 27) hx hb dX3_isOnTrial_23 (by decide) ?_
      exact hret 27 ls 1 _ dX3_isOnTrial_27 rfl rfl (congrArg Value.int (by first | (simp only [z_sTrial, if_pos c_5, if_neg c_19]; done) | rfl))
abbrev rm_X3_isWhole : Room := { frames := 1, cells := 0, slots := 0, locals := 21 }
set_option maxRecDepth 20000 in
theorem qX3_isWhole_1 : (Cond.fieldLink RX3 18 "FlashBoot$Slot" "header" "I" : Cond) ∈ wsX3_isWhole := List.mem_of_getElem? (i := 1) rfl
set_option maxRecDepth 20000 in
theorem iX3_isWhole_X3 : ∀ w ∈ wsX30, w ∈ wsX3_isWhole := by decide +kernel
set_option maxHeartbeats 4000000 in
set_option maxRecDepth 100000 in
theorem k_X3_isWhole (l : Launch) (D : va_G) (cI : ClassId) (g h q : Nat) (fp : Nat) (sd : Int32) (hd : Int32) (f : RW) (p : Int32) (a : Int32) (st : Int32) (n : Int32) (k : Int32)   : zMR l D cI yX3_isWhole wsX3_isWhole rm_X3_isWhole [.ref g, .ref h] (wS cI g h q fp sd hd f p a st n k) (.int (z_sWhole hd f)) := by
  refine zEntR (cc := cX3_isWhole) (maxL := 2) (ret := (some .boolean)) (own := RX3) (lvs := [(0, .ref g), (1, .ref h)]) (by decide) rfl rfl rfl rfl (Nat.le_of_ble_eq_true rfl) rfl ?_
  intro p0 e s m args below meth c Q ls hx hb hml hts hown hP hK hN hl hret hretA
  refine lv_aload_n hx hb dX3_isWhole_0 rfl (lv_at hl 1 rfl) ?_
  refine lv_aload_n hx hb dX3_isWhole_1 rfl (lv_at hl 0 rfl) ?_
  refine va_get (D := D) (ci := 3) (v := .int hd) (C := RX3) (T := TX3) (N := 3) hx hb hts iX3_isWhole_X3 hown hK hP 0 rfl rfl 2 (by decide) (hts _ qX3_isWhole_1) (fun _ h9 => h9) rfl dX3_isWhole_2 ?_
  refine lv_bipush (v := 8) hx hb dX3_isWhole_5 (by decide) ?_
  refine lv_iadd hx hb dX3_isWhole_7 ?_
  refine zVR (As := [.int (hd + 8)]) (rest := []) ⟨hx, hb, hml, hown, hts⟩ (k_X0_at l D cI h q f p a st n k (hd + 8)) (cwV 1 hts gX3_isWhole_X0_at rfl rfl rfl (by decide +kernel) ⟨Nat.le_of_ble_eq_true rfl, Nat.le_of_ble_eq_true rfl⟩) hP hK hN [1, 2] rfl (va_recv hK hP (ci := 0) (q0 := 1) rfl rfl) rfl hl.1 rfl (Nat.le_of_ble_eq_true rfl) dX3_isWhole_8 ⟨Nat.zero_le _, Nat.zero_le _⟩ ?_
  refine lv_if_ne (tgt := 18) hx hb dX3_isWhole_11 (by decide) (fun c_11 => ?_) (fun c_11 => ?_)
  · -- 11 t
    refine lv_iconst (v := 0) hx hb dX3_isWhole_18 (by decide) ?_
    exact hret 19 ls 0 _ dX3_isWhole_19 rfl rfl (congrArg Value.int (by first | (simp only [z_sWhole, if_neg c_11]; done) | rfl))
  · -- 11 f
    refine lv_iconst (v := 1) hx hb dX3_isWhole_14 (by decide) ?_
    refine lv_goto (tgt := 19) hx hb dX3_isWhole_15 (by decide) ?_
    exact hret 19 ls 1 _ dX3_isWhole_19 rfl rfl (congrArg Value.int (by first | (simp only [z_sWhole, if_pos c_11]; done) | rfl))
abbrev rm_X3_isGood : Room := { frames := 3, cells := 0, slots := 0, locals := 65 }
set_option maxRecDepth 20000 in
theorem qX3_isGood_19 : (Cond.initialized RX5 : Cond) ∈ wsX3_isGood := List.mem_of_getElem? (i := 19) rfl
set_option maxRecDepth 20000 in
theorem qX3_isGood_18 : (Cond.static yX5_isLength : Cond) ∈ wsX3_isGood := List.mem_of_getElem? (i := 18) rfl
set_option maxRecDepth 20000 in
theorem qX3_isGood_1 : (Cond.fieldLink RX3 15 "FlashBoot$Slot" "start" "I" : Cond) ∈ wsX3_isGood := List.mem_of_getElem? (i := 1) rfl
set_option maxRecDepth 20000 in
theorem iX3_isGood_X3 : ∀ w ∈ wsX30, w ∈ wsX3_isGood := by decide +kernel
set_option maxHeartbeats 4000000 in
set_option maxRecDepth 100000 in
theorem k_X3_isGood (l : Launch) (D : va_G) (cI : ClassId) (g h q : Nat) (fp : Nat) (sd : Int32) (hd : Int32) (f : RW) (p : Int32) (a : Int32) (st : Int32) (n : Int32) (k : Int32) (least : Int32)  : zMR l D cI yX3_isGood wsX3_isGood rm_X3_isGood [.ref g, .ref h, .int least] (wS cI g h q fp sd hd f p a st n k) (.int (z_sGood sd hd f least)) := by
  refine zEntR (cc := cX3_isGood) (maxL := 3) (ret := (some .boolean)) (own := RX3) (lvs := [(0, .ref g), (1, .ref h), (2, .int least)]) (by decide) rfl rfl rfl rfl (Nat.le_of_ble_eq_true rfl) rfl ?_
  intro p0 e s m args below meth c Q ls hx hb hml hts hown hP hK hN hl hret hretA
  refine lv_aload_n hx hb dX3_isGood_0 rfl (lv_at hl 0 rfl) ?_
  refine lv_aload_n hx hb dX3_isGood_1 rfl (lv_at hl 1 rfl) ?_
  refine zVR (As := [.ref h]) (rest := []) ⟨hx, hb, hml, hown, hts⟩ (k_X3_isWhole l D cI g h q fp sd hd f p a st n k) (cwV 1 hts gX3_isGood_X3_isWhole rfl rfl rfl (by decide +kernel) ⟨Nat.le_of_ble_eq_true rfl, Nat.le_of_ble_eq_true rfl⟩) hP hK hN [0, 1, 2] rfl (va_recv hK hP (ci := 3) (q0 := 0) rfl rfl) rfl hl.1 rfl (Nat.le_of_ble_eq_true rfl) dX3_isGood_2 ⟨Nat.zero_le _, Nat.zero_le _⟩ ?_
  refine lv_if_eq (tgt := 53) hx hb dX3_isGood_5 (by decide) (fun c_5 => ?_) (fun c_5 => ?_)
  · -- 5 t
    refine lv_iconst (v := 0) hx hb dX3_isGood_53 (by decide) ?_
    exact hret 54 ls 0 _ dX3_isGood_54 rfl rfl (congrArg Value.int (by first | (simp only [z_sGood, if_pos c_5]; done) | rfl))
  · -- 5 f
    refine lv_aload_n hx hb dX3_isGood_8 rfl (lv_at hl 0 rfl) ?_
    refine lv_aload_n hx hb dX3_isGood_9 rfl (lv_at hl 1 rfl) ?_
    refine zVR (As := [.ref h]) (rest := []) ⟨hx, hb, hml, hown, hts⟩ (k_X3_length l D cI g h q fp sd hd f p a st n k) (cwV 1 hts gX3_isGood_X3_length rfl rfl rfl (by decide +kernel) ⟨Nat.le_of_ble_eq_true rfl, Nat.le_of_ble_eq_true rfl⟩) hP hK hN [0, 1, 2] rfl (va_recv hK hP (ci := 3) (q0 := 0) rfl rfl) rfl hl.1 rfl (Nat.le_of_ble_eq_true rfl) dX3_isGood_10 ⟨Nat.zero_le _, Nat.zero_le _⟩ ?_
    refine zNR (As := [.int (z_at f hd)]) (rest := []) ⟨hx, hb, hml, hown, hts⟩ (k_X5_isLength l D cI (z_at f hd)) ⟨va_cnB 1 hts gX3_isGood_X5_isLength_n41 rfl rfl rfl (zN_at hN 17 rfl) (hts _ qX3_isGood_19) (by decide +kernel) ⟨Nat.le_of_ble_eq_true rfl, Nat.le_of_ble_eq_true rfl⟩, hts _ qX3_isGood_18, trivial⟩ hP hK hN [] rfl rfl hl.1 rfl (Nat.le_of_ble_eq_true rfl) dX3_isGood_13 ⟨Nat.zero_le _, Nat.zero_le _⟩ ?_
    refine lv_if_eq (tgt := 53) hx hb dX3_isGood_16 (by decide) (fun c_16 => ?_) (fun c_16 => ?_)
    · -- 16 t
      refine lv_iconst (v := 0) hx hb dX3_isGood_53 (by decide) ?_
      exact hret 54 ls 0 _ dX3_isGood_54 rfl rfl (congrArg Value.int (by first | (simp only [z_sGood, if_neg c_5, if_pos c_16]; done) | rfl))
    · -- 16 f
      refine lv_aload_n hx hb dX3_isGood_19 rfl (lv_at hl 0 rfl) ?_
      refine lv_aload_n hx hb dX3_isGood_20 rfl (lv_at hl 1 rfl) ?_
      refine zVR (As := [.ref h]) (rest := []) ⟨hx, hb, hml, hown, hts⟩ (k_X3_sequence l D cI g h q fp sd hd f p a st n k) (cwV 1 hts gX3_isGood_X3_sequence rfl rfl rfl (by decide +kernel) ⟨Nat.le_of_ble_eq_true rfl, Nat.le_of_ble_eq_true rfl⟩) hP hK hN [0, 1, 2] rfl (va_recv hK hP (ci := 3) (q0 := 0) rfl rfl) rfl hl.1 rfl (Nat.le_of_ble_eq_true rfl) dX3_isGood_21 ⟨Nat.zero_le _, Nat.zero_le _⟩ ?_
      refine lv_iload_n hx hb dX3_isGood_24 rfl (lv_at hl 2 rfl) ?_
      refine lv_icmp_lt (tgt := 53) hx hb dX3_isGood_25 (by decide) (fun c_25 => ?_) (fun c_25 => ?_)
      · -- 25 t
        refine lv_iconst (v := 0) hx hb dX3_isGood_53 (by decide) ?_
        exact hret 54 ls 0 _ dX3_isGood_54 rfl rfl (congrArg Value.int (by first | (simp only [z_sGood, if_neg c_5, if_neg c_16, if_pos c_25]; done) | rfl))
      · -- 25 f
        refine lv_aload_n hx hb dX3_isGood_28 rfl (lv_at hl 1 rfl) ?_
        refine lv_aload_n hx hb dX3_isGood_29 rfl (lv_at hl 0 rfl) ?_
        refine va_get (D := D) (ci := 3) (v := .int sd) (C := RX3) (T := TX3) (N := 3) hx hb hts iX3_isGood_X3 hown hK hP 0 rfl rfl 1 (by decide) (hts _ qX3_isGood_1) (fun _ h9 => h9) rfl dX3_isGood_30 ?_
        refine lv_aload_n hx hb dX3_isGood_33 rfl (lv_at hl 0 rfl) ?_
        refine lv_aload_n hx hb dX3_isGood_34 rfl (lv_at hl 1 rfl) ?_
        refine zVR (As := [.ref h]) (rest := [.int sd, .ref h]) ⟨hx, hb, hml, hown, hts⟩ (k_X3_length l D cI g h q fp sd hd f p a st n k) (cwV 1 hts gX3_isGood_X3_length rfl rfl rfl (by decide +kernel) ⟨Nat.le_of_ble_eq_true rfl, Nat.le_of_ble_eq_true rfl⟩) hP hK hN [0, 1, 2] rfl (va_recv hK hP (ci := 3) (q0 := 0) rfl rfl) rfl hl.1 rfl (Nat.le_of_ble_eq_true rfl) dX3_isGood_35 ⟨Nat.zero_le _, Nat.zero_le _⟩ ?_
        refine zVR (As := [.int sd, .int (z_at f hd)]) (rest := []) ⟨hx, hb, hml, hown, hts⟩ (k_X0_digestOf l D cI h q f p a st n k sd (z_at f hd)) (cwV 2 hts gX3_isGood_X0_digestOf rfl rfl rfl (by decide +kernel) ⟨Nat.le_of_ble_eq_true rfl, Nat.le_of_ble_eq_true rfl⟩) hP hK hN [1, 2] rfl (va_recv hK hP (ci := 0) (q0 := 1) rfl rfl) rfl hl.1 rfl (Nat.le_of_ble_eq_true rfl) dX3_isGood_38 ⟨Nat.zero_le _, Nat.zero_le _⟩ ?_
        refine lv_aload_n hx hb dX3_isGood_41 rfl (lv_at hl 0 rfl) ?_
        refine lv_aload_n hx hb dX3_isGood_42 rfl (lv_at hl 1 rfl) ?_
        refine zVR (As := [.ref h]) (rest := [.int (z_digO f sd (z_at f hd))]) ⟨hx, hb, hml, hown, hts⟩ (k_X3_digest l D cI g h q fp sd hd f p a st n k) (cwV 1 hts gX3_isGood_X3_digest rfl rfl rfl (by decide +kernel) ⟨Nat.le_of_ble_eq_true rfl, Nat.le_of_ble_eq_true rfl⟩) hP hK hN [0, 1, 2] rfl (va_recv hK hP (ci := 3) (q0 := 0) rfl rfl) rfl hl.1 rfl (Nat.le_of_ble_eq_true rfl) dX3_isGood_43 ⟨Nat.zero_le _, Nat.zero_le _⟩ ?_
        refine lv_icmp_ne (tgt := 53) hx hb dX3_isGood_46 (by decide) (fun c_46 => ?_) (fun c_46 => ?_)
        · -- 46 t
          refine lv_iconst (v := 0) hx hb dX3_isGood_53 (by decide) ?_
          exact hret 54 ls 0 _ dX3_isGood_54 rfl rfl (congrArg Value.int (by first | (simp only [z_sGood, if_neg c_5, if_neg c_16, if_neg c_25, if_neg c_46]; done) | rfl))
        · -- 46 f
          refine lv_iconst (v := 1) hx hb dX3_isGood_49 (by decide) ?_
          refine lv_goto (tgt := 54) hx hb dX3_isGood_50 (by decide) ?_
          exact hret 54 ls 1 _ dX3_isGood_54 rfl rfl (congrArg Value.int (by first | (simp only [z_sGood, if_neg c_5, if_neg c_16, if_neg c_25, if_pos c_46]; done) | rfl))
abbrev rm_X3_eraseHeader : Room := { frames := 2, cells := 0, slots := 0, locals := 43 }
set_option maxRecDepth 20000 in
theorem qX3_eraseHeader_1 : (Cond.fieldLink RX3 9 "FlashBoot$Slot" "firstPage" "I" : Cond) ∈ wsX3_eraseHeader := List.mem_of_getElem? (i := 1) rfl
set_option maxRecDepth 20000 in
theorem iX3_eraseHeader_X3 : ∀ w ∈ wsX30, w ∈ wsX3_eraseHeader := by decide +kernel
set_option maxHeartbeats 4000000 in
set_option maxRecDepth 100000 in
theorem k_X3_eraseHeader (l : Launch) (D : va_G) (cI : ClassId) (g h q : Nat) (fp : Nat) (sd : Int32) (hd : Int32) (f : RW) (p : Int32) (a : Int32) (st : Int32) (n : Int32) (k : Int32)  (hfp : fp ≤ 17) : zMW (S := RW × Int32 × Int32 × Int32 × Int32 × Int32) l D cI yX3_eraseHeader wsX3_eraseHeader rm_X3_eraseHeader [.ref g, .ref h] (wS cI g h q fp sd hd f p a st n k) (z_erase (fp + 6) (f, p, a, st, n, k)) (fun _ => none) (fun u => wS cI g h q fp sd hd u.1 u.2.1 u.2.2.1 u.2.2.2.1 u.2.2.2.2.1 u.2.2.2.2.2) := by
  refine zEntW (cc := cX3_eraseHeader) (maxL := 2) (ret := none) (own := RX3) (lvs := [(0, .ref g), (1, .ref h)]) (by decide) rfl rfl (Nat.le_of_ble_eq_true rfl) rfl ?_
  intro p0 e s m args below meth c Q ls A hx hb hml hts hown hP hK hN hD hS hA hl hret hretV
  refine lv_aload_n hx hb dX3_eraseHeader_0 rfl (lv_at hl 1 rfl) ?_
  refine lv_aload_n hx hb dX3_eraseHeader_1 rfl (lv_at hl 0 rfl) ?_
  refine va_get (D := D) (ci := 3) (v := .int (nI fp)) (C := RX3) (T := TX3) (N := 3) hx hb hts iX3_eraseHeader_X3 hown hK hP 0 rfl rfl 0 (by decide) (hts _ qX3_eraseHeader_1) (fun _ h9 => h9) rfl dX3_eraseHeader_2 ?_
  refine lv_bipush (v := 6) hx hb dX3_eraseHeader_5 (by decide) ?_
  refine lv_iadd hx hb dX3_eraseHeader_7 ?_
  refine z_top (v := nI (fp + 6)) (nI_add fp 6) ?_
  refine zVW (ws' := fun u => wS cI g h q fp sd hd u.1 u.2.1 u.2.2.1 u.2.2.2.1 u.2.2.2.2.1 u.2.2.2.2.2) (As := [.int (nI (fp + 6))]) (rest := []) ⟨hx, hb, hml, hown, hts⟩ (k_X0_erase l D cI h q f p a st n k (fp + 6) (by omega)) (cwV 1 hts gX3_eraseHeader_X0_erase rfl rfl rfl (by decide +kernel) ⟨Nat.le_of_ble_eq_true rfl, Nat.le_of_ble_eq_true rfl⟩) hP hK hN hD hS hA [1, 2] [0] rfl (by decide) (fun _ => rfl) (fun _ => rfl) (fun _ => rfl) rfl (va_recv hK hP (ci := 0) (q0 := 1) rfl rfl) rfl hl.1 rfl (Nat.le_of_ble_eq_true rfl) dX3_eraseHeader_8 ⟨Nat.zero_le _, Nat.zero_le _⟩ (fun u_8 H locs hu_8 hP hD hS => ?_)
  obtain ⟨f_8, p_8, a_8, st_8, n_8, k_8⟩ := u_8
  have hP : va_P D vwCl (wS cI g h q fp sd hd f_8 p_8 a_8 st_8 n_8 k_8) _ := hP
  have hD : va_D A (wS cI g h q fp sd hd f_8 p_8 a_8 st_8 n_8 k_8) := hD
  refine W.eq (g2 := F0 m 11 ls []) rfl ?_
  exact hretV 11 ls _ _ (f_8, p_8, a_8, st_8, n_8, k_8) dX3_eraseHeader_11 rfl rfl (by first | (simp only [← hu_8]; done) | rfl) hP hS
abbrev rm_X3_eraseImage : Room := { frames := 2, cells := 0, slots := 0, locals := 43 }
set_option maxRecDepth 20000 in
theorem qX3_eraseImage_1 : (Cond.fieldLink RX3 9 "FlashBoot$Slot" "firstPage" "I" : Cond) ∈ wsX3_eraseImage := List.mem_of_getElem? (i := 1) rfl
set_option maxRecDepth 20000 in
theorem iX3_eraseImage_X3 : ∀ w ∈ wsX30, w ∈ wsX3_eraseImage := by decide +kernel
set_option maxHeartbeats 4000000 in
set_option maxRecDepth 100000 in
theorem k_X3_eraseImage (l : Launch) (D : va_G) (cI : ClassId) (g h q : Nat) (fp : Nat) (sd : Int32) (hd : Int32) (f : RW) (p : Int32) (a : Int32) (st : Int32) (n : Int32) (k : Int32)  (hfp : fp ≤ 17) : zMW (S := RW × Int32 × Int32 × Int32 × Int32 × Int32) l D cI yX3_eraseImage wsX3_eraseImage rm_X3_eraseImage [.ref g, .ref h] (wS cI g h q fp sd hd f p a st n k) (z_eImg fp (f, p, a, st, n, k)) (fun _ => none) (fun u => wS cI g h q fp sd hd u.1 u.2.1 u.2.2.1 u.2.2.2.1 u.2.2.2.2.1 u.2.2.2.2.2) := by
  refine zEntW (cc := cX3_eraseImage) (maxL := 3) (ret := none) (own := RX3) (lvs := [(0, .ref g), (1, .ref h)]) (by decide) rfl rfl (Nat.le_of_ble_eq_true rfl) rfl ?_
  intro p0 e s m args below meth c Q ls A hx hb hml hts hown hP hK hN hD hS hA hl hret hretV
  refine lv_iconst (v := 0) hx hb dX3_eraseImage_0 (by decide) ?_
  refine lv_istore_n (lv' := [(2, .int 0), (0, .ref g), (1, .ref h)]) hx hb dX3_eraseImage_1 rfl hl (by decide) rfl (fun ls hl => ?_)
  have lp_2 : ∀ (g_2 : Nat) (i : Nat) (f9 : RW) (p9 : Int32) (a9 : Int32) (s9 : Int32) (n9 : Int32) (k9 : Int32) (H : Heap) (locs : List Loc) (ls : Array Slot), i ≤ 6 → (f9, p9, a9, s9, n9, k9) = z_eImgN fp (f, p, a, st, n, k) i → 6 - i < g_2 → va_P D vwCl (wS cI g h q fp sd hd f9 p9 a9 s9 n9 k9) H → va_D A (wS cI g h q fp sd hd f9 p9 a9 s9 n9 k9) → va_S A s.heap H locs → lv_has ls 3 [(0, .ref g), (1, .ref h), (2, .int (nI i))] → W p0 l e rm_X3_eraseImage s m args below meth c H locs 0 0 Q (F0 m 2 ls []) := by
    intro g_2
    induction g_2 with
    | zero => intro i f9 p9 a9 s9 n9 k9 H locs ls h1 hy h9_2; exact absurd h9_2 (Nat.not_lt_zero _)
    | succ g_2 ih_2 =>
      intro i f9 p9 a9 s9 n9 k9 H locs ls h1 hy h9_2 hP hD hS hl
      refine lv_iload_n hx hb dX3_eraseImage_2 rfl (lv_at hl 2 rfl) ?_
      refine lv_bipush (v := 6) hx hb dX3_eraseImage_3 (by decide) ?_
      refine z_icmp_ge (tgt := 24) hx hb dX3_eraseImage_5 (by decide) i 6 rfl rfl (by omega) (by omega) (fun c_5 => ?_) (fun c_5 => ?_)
      · -- 5 t
        exact hretV 24 ls _ _ (f9, p9, a9, s9, n9, k9) dX3_eraseImage_24 rfl rfl (by rw [z_eImg, show 6 = i by omega]; exact hy) hP hS
      · -- 5 f
        refine lv_aload_n hx hb dX3_eraseImage_8 rfl (lv_at hl 1 rfl) ?_
        refine lv_aload_n hx hb dX3_eraseImage_9 rfl (lv_at hl 0 rfl) ?_
        refine va_get (D := D) (ci := 3) (v := .int (nI fp)) (C := RX3) (T := TX3) (N := 3) hx hb hts iX3_eraseImage_X3 hown hK hP 0 rfl rfl 0 (by decide) (hts _ qX3_eraseImage_1) (fun _ h9 => h9) rfl dX3_eraseImage_10 ?_
        refine lv_iload_n hx hb dX3_eraseImage_13 rfl (lv_at hl 2 rfl) ?_
        refine lv_iadd hx hb dX3_eraseImage_14 ?_
        refine z_top (v := nI (fp + i)) (nI_add fp i) ?_
        refine zVW (ws' := fun u => wS cI g h q fp sd hd u.1 u.2.1 u.2.2.1 u.2.2.2.1 u.2.2.2.2.1 u.2.2.2.2.2) (As := [.int (nI (fp + i))]) (rest := []) ⟨hx, hb, hml, hown, hts⟩ (k_X0_erase l D cI h q f9 p9 a9 s9 n9 k9 (fp + i) (by omega)) (cwV 1 hts gX3_eraseImage_X0_erase rfl rfl rfl (by decide +kernel) ⟨Nat.le_of_ble_eq_true rfl, Nat.le_of_ble_eq_true rfl⟩) hP hK hN hD hS hA [1, 2] [0] rfl (by decide) (fun _ => rfl) (fun _ => rfl) (fun _ => rfl) rfl (va_recv hK hP (ci := 0) (q0 := 1) rfl rfl) rfl hl.1 rfl (Nat.le_of_ble_eq_true rfl) dX3_eraseImage_15 ⟨Nat.zero_le _, Nat.zero_le _⟩ (fun u_15 H locs hu_15 hP hD hS => ?_)
        obtain ⟨f_15, p_15, a_15, st_15, n_15, k_15⟩ := u_15
        have hP : va_P D vwCl (wS cI g h q fp sd hd f_15 p_15 a_15 st_15 n_15 k_15) _ := hP
        have hD : va_D A (wS cI g h q fp sd hd f_15 p_15 a_15 st_15 n_15 k_15) := hD
        refine W.eq (g2 := F0 m 18 ls []) rfl ?_
        refine lv_iinc (v := (nI (i + 1))) (lv' := [(2, .int (nI (i + 1))), (0, .ref g), (1, .ref h)]) hx hb dX3_eraseImage_18 hl (k := 2) rfl (z_inc _ _ rfl) (by decide) rfl (fun ls hl => ?_)
        refine lv_goto (tgt := 2) hx hb dX3_eraseImage_21 (by decide) ?_
        exact ih_2 (i + 1) f_15 p_15 a_15 st_15 n_15 k_15 _ _ _ (by omega) (by rw [hu_15, z_eImgN, ← hy]) (by omega) hP hD hS (lv_sub hl [1, 2, 0] rfl)
  exact lp_2 _ 0 f p a st n k _ _ _ (by omega) rfl (Nat.lt_succ_self _) hP hD hS (lv_sub hl [1, 2, 0] rfl)
abbrev rm_X3_programImage : Room := { frames := 3, cells := 0, slots := 0, locals := 67 }
set_option maxRecDepth 20000 in
theorem qX3_programImage_1 : (Cond.fieldLink RX3 15 "FlashBoot$Slot" "start" "I" : Cond) ∈ wsX3_programImage := List.mem_of_getElem? (i := 1) rfl
set_option maxRecDepth 20000 in
theorem iX3_programImage_X3 : ∀ w ∈ wsX30, w ∈ wsX3_programImage := by decide +kernel
set_option maxHeartbeats 4000000 in
set_option maxRecDepth 100000 in
theorem k_X3_programImage (l : Launch) (D : va_G) (cI : ClassId) (g h q r : Nat) (fp : Nat) (sd : Int32) (hd : Int32) (f : RW) (p : Int32) (a : Int32) (st : Int32) (n : Int32) (k : Int32) (row : RW) (rl : Nat) (len : Int32) (hrl : rl < 2 ^ 31) : zMW (S := RW × Int32 × Int32 × Int32 × Int32 × Int32) l D cI yX3_programImage wsX3_programImage rm_X3_programImage [.ref g, .ref h, .ref r, .int len] (wSR cI g h q r fp sd hd f p a st n k row rl) (z_row sd row rl len (f, p, a, st, n, k)) (fun _ => none) (fun u => wSR cI g h q r fp sd hd u.1 u.2.1 u.2.2.1 u.2.2.2.1 u.2.2.2.2.1 u.2.2.2.2.2 row rl) := by
  refine zEntW (cc := cX3_programImage) (maxL := 4) (ret := none) (own := RX3) (lvs := [(0, .ref g), (1, .ref h), (2, .ref r), (3, .int len)]) (by decide) rfl rfl (Nat.le_of_ble_eq_true rfl) rfl ?_
  intro p0 e s m args below meth c Q ls A hx hb hml hts hown hP hK hN hD hS hA hl hret hretV
  refine lv_aload_n hx hb dX3_programImage_0 rfl (lv_at hl 1 rfl) ?_
  refine lv_aload_n hx hb dX3_programImage_1 rfl (lv_at hl 0 rfl) ?_
  refine va_get (D := D) (ci := 3) (v := .int sd) (C := RX3) (T := TX3) (N := 3) hx hb hts iX3_programImage_X3 hown hK hP 0 rfl rfl 1 (by decide) (hts _ qX3_programImage_1) (fun _ h9 => h9) rfl dX3_programImage_2 ?_
  refine lv_aload_n hx hb dX3_programImage_5 rfl (lv_at hl 2 rfl) ?_
  refine lv_iload_n hx hb dX3_programImage_6 rfl (lv_at hl 3 rfl) ?_
  refine zVW (ws' := fun u => wSR cI g h q r fp sd hd u.1 u.2.1 u.2.2.1 u.2.2.2.1 u.2.2.2.2.1 u.2.2.2.2.2 row rl) (As := [.int sd, .ref r, .int len]) (rest := []) ⟨hx, hb, hml, hown, hts⟩ (k_X0_programRow l D cI h q r f p a st n k row rl sd len (by omega)) (cwV 3 hts gX3_programImage_X0_programRow rfl rfl rfl (by decide +kernel) ⟨Nat.le_of_ble_eq_true rfl, Nat.le_of_ble_eq_true rfl⟩) hP hK hN hD hS hA [1, 2, 3] [0] rfl (by decide) (fun _ => rfl) (fun _ => rfl) (fun _ => rfl) rfl (va_recv hK hP (ci := 0) (q0 := 1) rfl rfl) rfl hl.1 rfl (Nat.le_of_ble_eq_true rfl) dX3_programImage_7 ⟨Nat.zero_le _, Nat.zero_le _⟩ (fun u_7 H locs hu_7 hP hD hS => ?_)
  obtain ⟨f_7, p_7, a_7, st_7, n_7, k_7⟩ := u_7
  have hP : va_P D vwCl (wSR cI g h q r fp sd hd f_7 p_7 a_7 st_7 n_7 k_7 row rl) _ := hP
  have hD : va_D A (wSR cI g h q r fp sd hd f_7 p_7 a_7 st_7 n_7 k_7 row rl) := hD
  refine W.eq (g2 := F0 m 10 ls []) rfl ?_
  exact hretV 10 ls _ _ (f_7, p_7, a_7, st_7, n_7, k_7) dX3_programImage_10 rfl rfl (by first | (simp only [← hu_7]; done) | rfl) hP hS
abbrev rm_X3_programName : Room := { frames := 3, cells := 0, slots := 0, locals := 66 }
set_option maxRecDepth 20000 in
theorem qX3_programName_1 : (Cond.fieldLink RX3 18 "FlashBoot$Slot" "header" "I" : Cond) ∈ wsX3_programName := List.mem_of_getElem? (i := 1) rfl
set_option maxRecDepth 20000 in
theorem iX3_programName_X3 : ∀ w ∈ wsX30, w ∈ wsX3_programName := by decide +kernel
set_option maxHeartbeats 4000000 in
set_option maxRecDepth 100000 in
theorem k_X3_programName (l : Launch) (D : va_G) (cI : ClassId) (g h q : Nat) (fp : Nat) (sd : Int32) (hd : Int32) (f : RW) (p : Int32) (a : Int32) (st : Int32) (n : Int32) (k : Int32) (len : Int32) (seq : Int32) (dig : Int32)  : zMW (S := RW × Int32 × Int32 × Int32 × Int32 × Int32) l D cI yX3_programName wsX3_programName rm_X3_programName [.ref g, .ref h, .int len, .int seq, .int dig] (wS cI g h q fp sd hd f p a st n k) (z_name hd len seq dig (f, p, a, st, n, k)) (fun _ => none) (fun u => wS cI g h q fp sd hd u.1 u.2.1 u.2.2.1 u.2.2.2.1 u.2.2.2.2.1 u.2.2.2.2.2) := by
  refine zEntW (cc := cX3_programName) (maxL := 5) (ret := none) (own := RX3) (lvs := [(0, .ref g), (1, .ref h), (2, .int len), (3, .int seq), (4, .int dig)]) (by decide) rfl rfl (Nat.le_of_ble_eq_true rfl) rfl ?_
  intro p0 e s m args below meth c Q ls A hx hb hml hts hown hP hK hN hD hS hA hl hret hretV
  refine lv_aload_n hx hb dX3_programName_0 rfl (lv_at hl 1 rfl) ?_
  refine lv_aload_n hx hb dX3_programName_1 rfl (lv_at hl 0 rfl) ?_
  refine va_get (D := D) (ci := 3) (v := .int hd) (C := RX3) (T := TX3) (N := 3) hx hb hts iX3_programName_X3 hown hK hP 0 rfl rfl 2 (by decide) (hts _ qX3_programName_1) (fun _ h9 => h9) rfl dX3_programName_2 ?_
  refine lv_iload_n hx hb dX3_programName_5 rfl (lv_at hl 2 rfl) ?_
  refine zVW (ws' := fun u => wS cI g h q fp sd hd u.1 u.2.1 u.2.2.1 u.2.2.2.1 u.2.2.2.2.1 u.2.2.2.2.2) (As := [.int hd, .int len]) (rest := []) ⟨hx, hb, hml, hown, hts⟩ (k_X0_program l D cI h q f p a st n k hd len) (cwV 2 hts gX3_programName_X0_program rfl rfl rfl (by decide +kernel) ⟨Nat.le_of_ble_eq_true rfl, Nat.le_of_ble_eq_true rfl⟩) hP hK hN hD hS hA [1, 2] [0] rfl (by decide) (fun _ => rfl) (fun _ => rfl) (fun _ => rfl) rfl (va_recv hK hP (ci := 0) (q0 := 1) rfl rfl) rfl hl.1 rfl (Nat.le_of_ble_eq_true rfl) dX3_programName_6 ⟨Nat.zero_le _, Nat.zero_le _⟩ (fun u_6 H locs hu_6 hP hD hS => ?_)
  obtain ⟨f_6, p_6, a_6, st_6, n_6, k_6⟩ := u_6
  have hP : va_P D vwCl (wS cI g h q fp sd hd f_6 p_6 a_6 st_6 n_6 k_6) _ := hP
  have hD : va_D A (wS cI g h q fp sd hd f_6 p_6 a_6 st_6 n_6 k_6) := hD
  refine W.eq (g2 := F0 m 9 ls []) rfl ?_
  refine lv_aload_n hx hb dX3_programName_9 rfl (lv_at hl 1 rfl) ?_
  refine lv_aload_n hx hb dX3_programName_10 rfl (lv_at hl 0 rfl) ?_
  refine va_get (D := D) (ci := 3) (v := .int hd) (C := RX3) (T := TX3) (N := 3) hx hb hts iX3_programName_X3 hown hK hP 0 rfl rfl 2 (by decide) (hts _ qX3_programName_1) (fun _ h9 => h9) rfl dX3_programName_11 ?_
  refine lv_iconst (v := 1) hx hb dX3_programName_14 (by decide) ?_
  refine lv_iadd hx hb dX3_programName_15 ?_
  refine lv_iload_n hx hb dX3_programName_16 rfl (lv_at hl 3 rfl) ?_
  refine zVW (ws' := fun u => wS cI g h q fp sd hd u.1 u.2.1 u.2.2.1 u.2.2.2.1 u.2.2.2.2.1 u.2.2.2.2.2) (As := [.int (hd + 1), .int seq]) (rest := []) ⟨hx, hb, hml, hown, hts⟩ (k_X0_program l D cI h q f_6 p_6 a_6 st_6 n_6 k_6 (hd + 1) seq) (cwV 2 hts gX3_programName_X0_program rfl rfl rfl (by decide +kernel) ⟨Nat.le_of_ble_eq_true rfl, Nat.le_of_ble_eq_true rfl⟩) hP hK hN hD hS hA [1, 2] [0] rfl (by decide) (fun _ => rfl) (fun _ => rfl) (fun _ => rfl) rfl (va_recv hK hP (ci := 0) (q0 := 1) rfl rfl) rfl hl.1 rfl (Nat.le_of_ble_eq_true rfl) dX3_programName_17 ⟨Nat.zero_le _, Nat.zero_le _⟩ (fun u_17 H locs hu_17 hP hD hS => ?_)
  obtain ⟨f_17, p_17, a_17, st_17, n_17, k_17⟩ := u_17
  have hP : va_P D vwCl (wS cI g h q fp sd hd f_17 p_17 a_17 st_17 n_17 k_17) _ := hP
  have hD : va_D A (wS cI g h q fp sd hd f_17 p_17 a_17 st_17 n_17 k_17) := hD
  refine W.eq (g2 := F0 m 20 ls []) rfl ?_
  refine lv_aload_n hx hb dX3_programName_20 rfl (lv_at hl 1 rfl) ?_
  refine lv_aload_n hx hb dX3_programName_21 rfl (lv_at hl 0 rfl) ?_
  refine va_get (D := D) (ci := 3) (v := .int hd) (C := RX3) (T := TX3) (N := 3) hx hb hts iX3_programName_X3 hown hK hP 0 rfl rfl 2 (by decide) (hts _ qX3_programName_1) (fun _ h9 => h9) rfl dX3_programName_22 ?_
  refine lv_iconst (v := 2) hx hb dX3_programName_25 (by decide) ?_
  refine lv_iadd hx hb dX3_programName_26 ?_
  refine lv_iload hx hb dX3_programName_27 (lv_at hl 4 rfl) ?_
  refine zVW (ws' := fun u => wS cI g h q fp sd hd u.1 u.2.1 u.2.2.1 u.2.2.2.1 u.2.2.2.2.1 u.2.2.2.2.2) (As := [.int (hd + 2), .int dig]) (rest := []) ⟨hx, hb, hml, hown, hts⟩ (k_X0_programWord l D cI h q f_17 p_17 a_17 st_17 n_17 k_17 (hd + 2) dig) (cwV 2 hts gX3_programName_X0_programWord rfl rfl rfl (by decide +kernel) ⟨Nat.le_of_ble_eq_true rfl, Nat.le_of_ble_eq_true rfl⟩) hP hK hN hD hS hA [1, 2] [0] rfl (by decide) (fun _ => rfl) (fun _ => rfl) (fun _ => rfl) rfl (va_recv hK hP (ci := 0) (q0 := 1) rfl rfl) rfl hl.1 rfl (Nat.le_of_ble_eq_true rfl) dX3_programName_29 ⟨Nat.zero_le _, Nat.zero_le _⟩ (fun u_29 H locs hu_29 hP hD hS => ?_)
  obtain ⟨f_29, p_29, a_29, st_29, n_29, k_29⟩ := u_29
  have hP : va_P D vwCl (wS cI g h q fp sd hd f_29 p_29 a_29 st_29 n_29 k_29) _ := hP
  have hD : va_D A (wS cI g h q fp sd hd f_29 p_29 a_29 st_29 n_29 k_29) := hD
  refine W.eq (g2 := F0 m 32 ls []) rfl ?_
  exact hretV 32 ls _ _ (f_29, p_29, a_29, st_29, n_29, k_29) dX3_programName_32 rfl rfl (by first | (simp only [z_name, ← hu_6, ← hu_17, ← hu_29]; done) | rfl) hP hS
abbrev rm_X3_programTrials : Room := { frames := 2, cells := 0, slots := 0, locals := 43 }
set_option maxRecDepth 20000 in
theorem qX3_programTrials_1 : (Cond.fieldLink RX3 18 "FlashBoot$Slot" "header" "I" : Cond) ∈ wsX3_programTrials := List.mem_of_getElem? (i := 1) rfl
set_option maxRecDepth 20000 in
theorem iX3_programTrials_X3 : ∀ w ∈ wsX30, w ∈ wsX3_programTrials := by decide +kernel
set_option maxHeartbeats 4000000 in
set_option maxRecDepth 100000 in
theorem k_X3_programTrials (l : Launch) (D : va_G) (cI : ClassId) (g h q : Nat) (fp : Nat) (sd : Int32) (hd : Int32) (f : RW) (p : Int32) (a : Int32) (st : Int32) (n : Int32) (k : Int32)   : zMW (S := RW × Int32 × Int32 × Int32 × Int32 × Int32) l D cI yX3_programTrials wsX3_programTrials rm_X3_programTrials [.ref g, .ref h] (wS cI g h q fp sd hd f p a st n k) (z_prog (hd + 6) 15 (f, p, a, st, n, k)) (fun _ => none) (fun u => wS cI g h q fp sd hd u.1 u.2.1 u.2.2.1 u.2.2.2.1 u.2.2.2.2.1 u.2.2.2.2.2) := by
  refine zEntW (cc := cX3_programTrials) (maxL := 2) (ret := none) (own := RX3) (lvs := [(0, .ref g), (1, .ref h)]) (by decide) rfl rfl (Nat.le_of_ble_eq_true rfl) rfl ?_
  intro p0 e s m args below meth c Q ls A hx hb hml hts hown hP hK hN hD hS hA hl hret hretV
  refine lv_aload_n hx hb dX3_programTrials_0 rfl (lv_at hl 1 rfl) ?_
  refine lv_aload_n hx hb dX3_programTrials_1 rfl (lv_at hl 0 rfl) ?_
  refine va_get (D := D) (ci := 3) (v := .int hd) (C := RX3) (T := TX3) (N := 3) hx hb hts iX3_programTrials_X3 hown hK hP 0 rfl rfl 2 (by decide) (hts _ qX3_programTrials_1) (fun _ h9 => h9) rfl dX3_programTrials_2 ?_
  refine lv_bipush (v := 6) hx hb dX3_programTrials_5 (by decide) ?_
  refine lv_iadd hx hb dX3_programTrials_7 ?_
  refine lv_bipush (v := 15) hx hb dX3_programTrials_8 (by decide) ?_
  refine zVW (ws' := fun u => wS cI g h q fp sd hd u.1 u.2.1 u.2.2.1 u.2.2.2.1 u.2.2.2.2.1 u.2.2.2.2.2) (As := [.int (hd + 6), .int 15]) (rest := []) ⟨hx, hb, hml, hown, hts⟩ (k_X0_program l D cI h q f p a st n k (hd + 6) 15) (cwV 2 hts gX3_programTrials_X0_program rfl rfl rfl (by decide +kernel) ⟨Nat.le_of_ble_eq_true rfl, Nat.le_of_ble_eq_true rfl⟩) hP hK hN hD hS hA [1, 2] [0] rfl (by decide) (fun _ => rfl) (fun _ => rfl) (fun _ => rfl) rfl (va_recv hK hP (ci := 0) (q0 := 1) rfl rfl) rfl hl.1 rfl (Nat.le_of_ble_eq_true rfl) dX3_programTrials_10 ⟨Nat.zero_le _, Nat.zero_le _⟩ (fun u_10 H locs hu_10 hP hD hS => ?_)
  obtain ⟨f_10, p_10, a_10, st_10, n_10, k_10⟩ := u_10
  have hP : va_P D vwCl (wS cI g h q fp sd hd f_10 p_10 a_10 st_10 n_10 k_10) _ := hP
  have hD : va_D A (wS cI g h q fp sd hd f_10 p_10 a_10 st_10 n_10 k_10) := hD
  refine W.eq (g2 := F0 m 13 ls []) rfl ?_
  exact hretV 13 ls _ _ (f_10, p_10, a_10, st_10, n_10, k_10) dX3_programTrials_13 rfl rfl (by first | (simp only [← hu_10]; done) | rfl) hP hS
abbrev rm_X3_useTrial : Room := { frames := 3, cells := 0, slots := 0, locals := 65 }
set_option maxRecDepth 20000 in
theorem qX3_useTrial_1 : (Cond.fieldLink RX3 18 "FlashBoot$Slot" "header" "I" : Cond) ∈ wsX3_useTrial := List.mem_of_getElem? (i := 1) rfl
set_option maxRecDepth 20000 in
theorem iX3_useTrial_X3 : ∀ w ∈ wsX30, w ∈ wsX3_useTrial := by decide +kernel
set_option maxHeartbeats 4000000 in
set_option maxRecDepth 100000 in
theorem k_X3_useTrial (l : Launch) (D : va_G) (cI : ClassId) (g h q : Nat) (fp : Nat) (sd : Int32) (hd : Int32) (f : RW) (p : Int32) (a : Int32) (st : Int32) (n : Int32) (k : Int32)   : zMW (S := RW × Int32 × Int32 × Int32 × Int32 × Int32) l D cI yX3_useTrial wsX3_useTrial rm_X3_useTrial [.ref g, .ref h] (wS cI g h q fp sd hd f p a st n k) (z_plow (hd + 6) (f, p, a, st, n, k)) (fun _ => none) (fun u => wS cI g h q fp sd hd u.1 u.2.1 u.2.2.1 u.2.2.2.1 u.2.2.2.2.1 u.2.2.2.2.2) := by
  refine zEntW (cc := cX3_useTrial) (maxL := 2) (ret := none) (own := RX3) (lvs := [(0, .ref g), (1, .ref h)]) (by decide) rfl rfl (Nat.le_of_ble_eq_true rfl) rfl ?_
  intro p0 e s m args below meth c Q ls A hx hb hml hts hown hP hK hN hD hS hA hl hret hretV
  refine lv_aload_n hx hb dX3_useTrial_0 rfl (lv_at hl 1 rfl) ?_
  refine lv_aload_n hx hb dX3_useTrial_1 rfl (lv_at hl 0 rfl) ?_
  refine va_get (D := D) (ci := 3) (v := .int hd) (C := RX3) (T := TX3) (N := 3) hx hb hts iX3_useTrial_X3 hown hK hP 0 rfl rfl 2 (by decide) (hts _ qX3_useTrial_1) (fun _ h9 => h9) rfl dX3_useTrial_2 ?_
  refine lv_bipush (v := 6) hx hb dX3_useTrial_5 (by decide) ?_
  refine lv_iadd hx hb dX3_useTrial_7 ?_
  refine zVW (ws' := fun u => wS cI g h q fp sd hd u.1 u.2.1 u.2.2.1 u.2.2.2.1 u.2.2.2.2.1 u.2.2.2.2.2) (As := [.int (hd + 6)]) (rest := []) ⟨hx, hb, hml, hown, hts⟩ (k_X0_programLowestBit l D cI h q f p a st n k (hd + 6)) (cwV 1 hts gX3_useTrial_X0_programLowestBit rfl rfl rfl (by decide +kernel) ⟨Nat.le_of_ble_eq_true rfl, Nat.le_of_ble_eq_true rfl⟩) hP hK hN hD hS hA [1, 2] [0] rfl (by decide) (fun _ => rfl) (fun _ => rfl) (fun _ => rfl) rfl (va_recv hK hP (ci := 0) (q0 := 1) rfl rfl) rfl hl.1 rfl (Nat.le_of_ble_eq_true rfl) dX3_useTrial_8 ⟨Nat.zero_le _, Nat.zero_le _⟩ (fun u_8 H locs hu_8 hP hD hS => ?_)
  obtain ⟨f_8, p_8, a_8, st_8, n_8, k_8⟩ := u_8
  have hP : va_P D vwCl (wS cI g h q fp sd hd f_8 p_8 a_8 st_8 n_8 k_8) _ := hP
  have hD : va_D A (wS cI g h q fp sd hd f_8 p_8 a_8 st_8 n_8 k_8) := hD
  refine W.eq (g2 := F0 m 11 ls []) rfl ?_
  exact hretV 11 ls _ _ (f_8, p_8, a_8, st_8, n_8, k_8) dX3_useTrial_11 rfl rfl (by first | (simp only [← hu_8]; done) | rfl) hP hS
abbrev rm_X3_programConfirmed : Room := { frames := 2, cells := 0, slots := 0, locals := 43 }
set_option maxRecDepth 20000 in
theorem qX3_programConfirmed_1 : (Cond.fieldLink RX3 18 "FlashBoot$Slot" "header" "I" : Cond) ∈ wsX3_programConfirmed := List.mem_of_getElem? (i := 1) rfl
set_option maxRecDepth 20000 in
theorem iX3_programConfirmed_X3 : ∀ w ∈ wsX30, w ∈ wsX3_programConfirmed := by decide +kernel
set_option maxHeartbeats 4000000 in
set_option maxRecDepth 100000 in
theorem k_X3_programConfirmed (l : Launch) (D : va_G) (cI : ClassId) (g h q : Nat) (fp : Nat) (sd : Int32) (hd : Int32) (f : RW) (p : Int32) (a : Int32) (st : Int32) (n : Int32) (k : Int32)   : zMW (S := RW × Int32 × Int32 × Int32 × Int32 × Int32) l D cI yX3_programConfirmed wsX3_programConfirmed rm_X3_programConfirmed [.ref g, .ref h] (wS cI g h q fp sd hd f p a st n k) (z_prog (hd + 7) 0 (f, p, a, st, n, k)) (fun _ => none) (fun u => wS cI g h q fp sd hd u.1 u.2.1 u.2.2.1 u.2.2.2.1 u.2.2.2.2.1 u.2.2.2.2.2) := by
  refine zEntW (cc := cX3_programConfirmed) (maxL := 2) (ret := none) (own := RX3) (lvs := [(0, .ref g), (1, .ref h)]) (by decide) rfl rfl (Nat.le_of_ble_eq_true rfl) rfl ?_
  intro p0 e s m args below meth c Q ls A hx hb hml hts hown hP hK hN hD hS hA hl hret hretV
  refine lv_aload_n hx hb dX3_programConfirmed_0 rfl (lv_at hl 1 rfl) ?_
  refine lv_aload_n hx hb dX3_programConfirmed_1 rfl (lv_at hl 0 rfl) ?_
  refine va_get (D := D) (ci := 3) (v := .int hd) (C := RX3) (T := TX3) (N := 3) hx hb hts iX3_programConfirmed_X3 hown hK hP 0 rfl rfl 2 (by decide) (hts _ qX3_programConfirmed_1) (fun _ h9 => h9) rfl dX3_programConfirmed_2 ?_
  refine lv_bipush (v := 7) hx hb dX3_programConfirmed_5 (by decide) ?_
  refine lv_iadd hx hb dX3_programConfirmed_7 ?_
  refine lv_iconst (v := 0) hx hb dX3_programConfirmed_8 (by decide) ?_
  refine zVW (ws' := fun u => wS cI g h q fp sd hd u.1 u.2.1 u.2.2.1 u.2.2.2.1 u.2.2.2.2.1 u.2.2.2.2.2) (As := [.int (hd + 7), .int 0]) (rest := []) ⟨hx, hb, hml, hown, hts⟩ (k_X0_program l D cI h q f p a st n k (hd + 7) 0) (cwV 2 hts gX3_programConfirmed_X0_program rfl rfl rfl (by decide +kernel) ⟨Nat.le_of_ble_eq_true rfl, Nat.le_of_ble_eq_true rfl⟩) hP hK hN hD hS hA [1, 2] [0] rfl (by decide) (fun _ => rfl) (fun _ => rfl) (fun _ => rfl) rfl (va_recv hK hP (ci := 0) (q0 := 1) rfl rfl) rfl hl.1 rfl (Nat.le_of_ble_eq_true rfl) dX3_programConfirmed_9 ⟨Nat.zero_le _, Nat.zero_le _⟩ (fun u_9 H locs hu_9 hP hD hS => ?_)
  obtain ⟨f_9, p_9, a_9, st_9, n_9, k_9⟩ := u_9
  have hP : va_P D vwCl (wS cI g h q fp sd hd f_9 p_9 a_9 st_9 n_9 k_9) _ := hP
  have hD : va_D A (wS cI g h q fp sd hd f_9 p_9 a_9 st_9 n_9 k_9) := hD
  refine W.eq (g2 := F0 m 12 ls []) rfl ?_
  exact hretV 12 ls _ _ (f_9, p_9, a_9, st_9, n_9, k_9) dX3_programConfirmed_12 rfl rfl (by first | (simp only [← hu_9]; done) | rfl) hP hS
abbrev rm_X3_programWhole : Room := { frames := 2, cells := 0, slots := 0, locals := 43 }
set_option maxRecDepth 20000 in
theorem qX3_programWhole_1 : (Cond.fieldLink RX3 18 "FlashBoot$Slot" "header" "I" : Cond) ∈ wsX3_programWhole := List.mem_of_getElem? (i := 1) rfl
set_option maxRecDepth 20000 in
theorem iX3_programWhole_X3 : ∀ w ∈ wsX30, w ∈ wsX3_programWhole := by decide +kernel
set_option maxHeartbeats 4000000 in
set_option maxRecDepth 100000 in
theorem k_X3_programWhole (l : Launch) (D : va_G) (cI : ClassId) (g h q : Nat) (fp : Nat) (sd : Int32) (hd : Int32) (f : RW) (p : Int32) (a : Int32) (st : Int32) (n : Int32) (k : Int32)   : zMW (S := RW × Int32 × Int32 × Int32 × Int32 × Int32) l D cI yX3_programWhole wsX3_programWhole rm_X3_programWhole [.ref g, .ref h] (wS cI g h q fp sd hd f p a st n k) (z_prog (hd + 8) 0 (f, p, a, st, n, k)) (fun _ => none) (fun u => wS cI g h q fp sd hd u.1 u.2.1 u.2.2.1 u.2.2.2.1 u.2.2.2.2.1 u.2.2.2.2.2) := by
  refine zEntW (cc := cX3_programWhole) (maxL := 2) (ret := none) (own := RX3) (lvs := [(0, .ref g), (1, .ref h)]) (by decide) rfl rfl (Nat.le_of_ble_eq_true rfl) rfl ?_
  intro p0 e s m args below meth c Q ls A hx hb hml hts hown hP hK hN hD hS hA hl hret hretV
  refine lv_aload_n hx hb dX3_programWhole_0 rfl (lv_at hl 1 rfl) ?_
  refine lv_aload_n hx hb dX3_programWhole_1 rfl (lv_at hl 0 rfl) ?_
  refine va_get (D := D) (ci := 3) (v := .int hd) (C := RX3) (T := TX3) (N := 3) hx hb hts iX3_programWhole_X3 hown hK hP 0 rfl rfl 2 (by decide) (hts _ qX3_programWhole_1) (fun _ h9 => h9) rfl dX3_programWhole_2 ?_
  refine lv_bipush (v := 8) hx hb dX3_programWhole_5 (by decide) ?_
  refine lv_iadd hx hb dX3_programWhole_7 ?_
  refine lv_iconst (v := 0) hx hb dX3_programWhole_8 (by decide) ?_
  refine zVW (ws' := fun u => wS cI g h q fp sd hd u.1 u.2.1 u.2.2.1 u.2.2.2.1 u.2.2.2.2.1 u.2.2.2.2.2) (As := [.int (hd + 8), .int 0]) (rest := []) ⟨hx, hb, hml, hown, hts⟩ (k_X0_program l D cI h q f p a st n k (hd + 8) 0) (cwV 2 hts gX3_programWhole_X0_program rfl rfl rfl (by decide +kernel) ⟨Nat.le_of_ble_eq_true rfl, Nat.le_of_ble_eq_true rfl⟩) hP hK hN hD hS hA [1, 2] [0] rfl (by decide) (fun _ => rfl) (fun _ => rfl) (fun _ => rfl) rfl (va_recv hK hP (ci := 0) (q0 := 1) rfl rfl) rfl hl.1 rfl (Nat.le_of_ble_eq_true rfl) dX3_programWhole_9 ⟨Nat.zero_le _, Nat.zero_le _⟩ (fun u_9 H locs hu_9 hP hD hS => ?_)
  obtain ⟨f_9, p_9, a_9, st_9, n_9, k_9⟩ := u_9
  have hP : va_P D vwCl (wS cI g h q fp sd hd f_9 p_9 a_9 st_9 n_9 k_9) _ := hP
  have hD : va_D A (wS cI g h q fp sd hd f_9 p_9 a_9 st_9 n_9 k_9) := hD
  refine W.eq (g2 := F0 m 12 ls []) rfl ?_
  exact hretV 12 ls _ _ (f_9, p_9, a_9, st_9, n_9, k_9) dX3_programWhole_12 rfl rfl (by first | (simp only [← hu_9]; done) | rfl) hP hS
abbrev rm_X1_vendor : Room := { frames := 0, cells := 0, slots := 0, locals := 0 }
set_option maxRecDepth 20000 in
theorem qX1_vendor_1 : (Cond.fieldLink RX1 11 "FlashBoot$Manifest" "bytes" "[I" : Cond) ∈ wsX1_vendor := List.mem_of_getElem? (i := 1) rfl
set_option maxRecDepth 20000 in
theorem iX1_vendor_X1 : ∀ w ∈ wsX10, w ∈ wsX1_vendor := by decide +kernel
set_option maxHeartbeats 4000000 in
set_option maxRecDepth 100000 in
theorem k_X1_vendor (l : Launch) (D : va_G) (cI : ClassId) (h q : Nat) (ob : RW)   : zMR l D cI yX1_vendor wsX1_vendor rm_X1_vendor [.ref h] (wM cI h q ob) (.int (ob 0)) := by
  refine zEntR (cc := cX1_vendor) (maxL := 1) (ret := (some .int)) (own := RX1) (lvs := [(0, .ref h)]) (by decide) rfl rfl rfl rfl (Nat.le_of_ble_eq_true rfl) rfl ?_
  intro p0 e s m args below meth c Q ls hx hb hml hts hown hP hK hN hl hret hretA
  refine lv_aload_n hx hb dX1_vendor_0 rfl (lv_at hl 0 rfl) ?_
  refine va_get (D := D) (ci := 1) (v := .ref q) (C := RX1) (T := TX1) (N := 1) hx hb hts iX1_vendor_X1 hown hK hP 0 rfl rfl 0 (by decide) (hts _ qX1_vendor_1) (fun _ h9 => h9) rfl dX1_vendor_1 ?_
  refine lv_iconst (v := 0) hx hb dX1_vendor_4 (by decide) ?_
  refine z_iald hx hb hK hP 1 0 rfl rfl 0 rfl (by omega) (by decide) dX1_vendor_5 ?_
  exact hret 6 ls (ob 0) _ dX1_vendor_6 rfl rfl (congrArg Value.int (by rfl))
abbrev rm_X1_sequence : Room := { frames := 0, cells := 0, slots := 0, locals := 0 }
set_option maxRecDepth 20000 in
theorem qX1_sequence_1 : (Cond.fieldLink RX1 11 "FlashBoot$Manifest" "bytes" "[I" : Cond) ∈ wsX1_sequence := List.mem_of_getElem? (i := 1) rfl
set_option maxRecDepth 20000 in
theorem iX1_sequence_X1 : ∀ w ∈ wsX10, w ∈ wsX1_sequence := by decide +kernel
set_option maxHeartbeats 4000000 in
set_option maxRecDepth 100000 in
theorem k_X1_sequence (l : Launch) (D : va_G) (cI : ClassId) (h q : Nat) (ob : RW)   : zMR l D cI yX1_sequence wsX1_sequence rm_X1_sequence [.ref h] (wM cI h q ob) (.int (ob 1)) := by
  refine zEntR (cc := cX1_sequence) (maxL := 1) (ret := (some .int)) (own := RX1) (lvs := [(0, .ref h)]) (by decide) rfl rfl rfl rfl (Nat.le_of_ble_eq_true rfl) rfl ?_
  intro p0 e s m args below meth c Q ls hx hb hml hts hown hP hK hN hl hret hretA
  refine lv_aload_n hx hb dX1_sequence_0 rfl (lv_at hl 0 rfl) ?_
  refine va_get (D := D) (ci := 1) (v := .ref q) (C := RX1) (T := TX1) (N := 1) hx hb hts iX1_sequence_X1 hown hK hP 0 rfl rfl 0 (by decide) (hts _ qX1_sequence_1) (fun _ h9 => h9) rfl dX1_sequence_1 ?_
  refine lv_iconst (v := 1) hx hb dX1_sequence_4 (by decide) ?_
  refine z_iald hx hb hK hP 1 0 rfl rfl 1 rfl (by omega) (by decide) dX1_sequence_5 ?_
  exact hret 6 ls (ob 1) _ dX1_sequence_6 rfl rfl (congrArg Value.int (by rfl))
abbrev rm_X1_payloadLength : Room := { frames := 0, cells := 0, slots := 0, locals := 0 }
set_option maxRecDepth 20000 in
theorem qX1_payloadLength_1 : (Cond.fieldLink RX1 11 "FlashBoot$Manifest" "bytes" "[I" : Cond) ∈ wsX1_payloadLength := List.mem_of_getElem? (i := 1) rfl
set_option maxRecDepth 20000 in
theorem iX1_payloadLength_X1 : ∀ w ∈ wsX10, w ∈ wsX1_payloadLength := by decide +kernel
set_option maxHeartbeats 4000000 in
set_option maxRecDepth 100000 in
theorem k_X1_payloadLength (l : Launch) (D : va_G) (cI : ClassId) (h q : Nat) (ob : RW)   : zMR l D cI yX1_payloadLength wsX1_payloadLength rm_X1_payloadLength [.ref h] (wM cI h q ob) (.int (ob 6)) := by
  refine zEntR (cc := cX1_payloadLength) (maxL := 1) (ret := (some .int)) (own := RX1) (lvs := [(0, .ref h)]) (by decide) rfl rfl rfl rfl (Nat.le_of_ble_eq_true rfl) rfl ?_
  intro p0 e s m args below meth c Q ls hx hb hml hts hown hP hK hN hl hret hretA
  refine lv_aload_n hx hb dX1_payloadLength_0 rfl (lv_at hl 0 rfl) ?_
  refine va_get (D := D) (ci := 1) (v := .ref q) (C := RX1) (T := TX1) (N := 1) hx hb hts iX1_payloadLength_X1 hown hK hP 0 rfl rfl 0 (by decide) (hts _ qX1_payloadLength_1) (fun _ h9 => h9) rfl dX1_payloadLength_1 ?_
  refine lv_bipush (v := 6) hx hb dX1_payloadLength_4 (by decide) ?_
  refine z_iald hx hb hK hP 1 0 rfl rfl 6 rfl (by omega) (by decide) dX1_payloadLength_6 ?_
  exact hret 7 ls (ob 6) _ dX1_payloadLength_7 rfl rfl (congrArg Value.int (by rfl))
abbrev rm_X1_imageLength : Room := { frames := 0, cells := 0, slots := 0, locals := 0 }
set_option maxRecDepth 20000 in
theorem qX1_imageLength_1 : (Cond.fieldLink RX1 11 "FlashBoot$Manifest" "bytes" "[I" : Cond) ∈ wsX1_imageLength := List.mem_of_getElem? (i := 1) rfl
set_option maxRecDepth 20000 in
theorem iX1_imageLength_X1 : ∀ w ∈ wsX10, w ∈ wsX1_imageLength := by decide +kernel
set_option maxHeartbeats 4000000 in
set_option maxRecDepth 100000 in
theorem k_X1_imageLength (l : Launch) (D : va_G) (cI : ClassId) (h q : Nat) (ob : RW)   : zMR l D cI yX1_imageLength wsX1_imageLength rm_X1_imageLength [.ref h] (wM cI h q ob) (.int (ob 11)) := by
  refine zEntR (cc := cX1_imageLength) (maxL := 1) (ret := (some .int)) (own := RX1) (lvs := [(0, .ref h)]) (by decide) rfl rfl rfl rfl (Nat.le_of_ble_eq_true rfl) rfl ?_
  intro p0 e s m args below meth c Q ls hx hb hml hts hown hP hK hN hl hret hretA
  refine lv_aload_n hx hb dX1_imageLength_0 rfl (lv_at hl 0 rfl) ?_
  refine va_get (D := D) (ci := 1) (v := .ref q) (C := RX1) (T := TX1) (N := 1) hx hb hts iX1_imageLength_X1 hown hK hP 0 rfl rfl 0 (by decide) (hts _ qX1_imageLength_1) (fun _ h9 => h9) rfl dX1_imageLength_1 ?_
  refine lv_bipush (v := 11) hx hb dX1_imageLength_4 (by decide) ?_
  refine z_iald hx hb hK hP 1 0 rfl rfl 11 rfl (by omega) (by decide) dX1_imageLength_6 ?_
  exact hret 7 ls (ob 11) _ dX1_imageLength_7 rfl rfl (congrArg Value.int (by rfl))
abbrev rm_X1_word : Room := { frames := 0, cells := 0, slots := 0, locals := 0 }
set_option maxRecDepth 20000 in
theorem qX1_word_1 : (Cond.fieldLink RX1 11 "FlashBoot$Manifest" "bytes" "[I" : Cond) ∈ wsX1_word := List.mem_of_getElem? (i := 1) rfl
set_option maxRecDepth 20000 in
theorem iX1_word_X1 : ∀ w ∈ wsX10, w ∈ wsX1_word := by decide +kernel
set_option maxHeartbeats 4000000 in
set_option maxRecDepth 100000 in
theorem k_X1_word (l : Launch) (D : va_G) (cI : ClassId) (h q : Nat) (ob : RW) (b : Nat) (hb16 : b ≤ 16) : zMR l D cI yX1_word wsX1_word rm_X1_word [.ref h, .int (nI b)] (wM cI h q ob) (.int (z_mword ob b)) := by
  refine zEntR (cc := cX1_word) (maxL := 4) (ret := (some .int)) (own := RX1) (lvs := [(0, .ref h), (1, .int (nI b))]) (by decide) rfl rfl rfl rfl (Nat.le_of_ble_eq_true rfl) rfl ?_
  intro p0 e s m args below meth c Q ls hx hb hml hts hown hP hK hN hl hret hretA
  refine lv_iconst (v := 0) hx hb dX1_word_0 (by decide) ?_
  refine lv_istore_n (lv' := [(2, .int 0), (0, .ref h), (1, .int (nI b))]) hx hb dX1_word_1 rfl hl (by decide) rfl (fun ls hl => ?_)
  refine lv_iload_n hx hb dX1_word_2 rfl (lv_at hl 2 rfl) ?_
  refine lv_istore_n (lv' := [(3, .int (nI b)), (2, .int 0), (0, .ref h), (1, .int (nI b))]) hx hb dX1_word_3 rfl hl (by decide) rfl (fun ls hl => ?_)
  have lp_4 : ∀ (g_4 : Nat) (i : Nat) (ls : Array Slot), i ≤ 4 → 4 - i < g_4 → lv_has ls 4 [(0, .ref h), (1, .int (nI b)), (2, .int (z_mwordN ob b i)), (3, .int (nI (b + i)))] → W p0 l e rm_X1_word s m args below meth c s.heap [] 0 0 Q (F0 m 4 ls []) := by
    intro g_4
    induction g_4 with
    | zero => intro i ls h1 h9_4; exact absurd h9_4 (Nat.not_lt_zero _)
    | succ g_4 ih_4 =>
      intro i ls h1 h9_4 hl
      refine lv_iload_n hx hb dX1_word_4 rfl (lv_at hl 3 rfl) ?_
      refine lv_iload_n hx hb dX1_word_5 rfl (lv_at hl 1 rfl) ?_
      refine lv_iconst (v := 4) hx hb dX1_word_6 (by decide) ?_
      refine lv_iadd hx hb dX1_word_7 ?_
      refine z_top (v := nI (b + 4)) (nI_add b 4) ?_
      refine z_icmp_ge (tgt := 35) hx hb dX1_word_8 (by decide) (b + i) (b + 4) rfl rfl (by omega) (by omega) (fun c_8 => ?_) (fun c_8 => ?_)
      · -- 8 t
        refine lv_iload_n hx hb dX1_word_35 rfl (lv_at hl 2 rfl) ?_
        exact hret 36 ls (z_mwordN ob b i) _ dX1_word_36 rfl rfl (congrArg Value.int (by rw [z_mword, show 4 = i by omega]))
      · -- 8 f
        refine lv_iload_n hx hb dX1_word_11 rfl (lv_at hl 3 rfl) ?_
        refine lv_bipush (v := 20) hx hb dX1_word_12 (by decide) ?_
        refine z_icmp_ge (tgt := 35) hx hb dX1_word_14 (by decide) (b + i) 20 rfl rfl (by omega) (by omega) (fun c_14 => ?_) (fun c_14 => ?_)
        · -- 14 t
          exact absurd c_14 (by omega)
        · -- 14 f
          refine lv_iload_n hx hb dX1_word_17 rfl (lv_at hl 2 rfl) ?_
          refine lv_bipush (v := 8) hx hb dX1_word_18 (by decide) ?_
          refine lv_ishl hx hb dX1_word_20 ?_
          refine lv_aload_n hx hb dX1_word_21 rfl (lv_at hl 0 rfl) ?_
          refine va_get (D := D) (ci := 1) (v := .ref q) (C := RX1) (T := TX1) (N := 1) hx hb hts iX1_word_X1 hown hK hP 0 rfl rfl 0 (by decide) (hts _ qX1_word_1) (fun _ h9 => h9) rfl dX1_word_22 ?_
          refine lv_iload_n hx hb dX1_word_25 rfl (lv_at hl 3 rfl) ?_
          refine z_iald hx hb hK hP 1 0 rfl rfl (b + i) rfl (by omega) (by decide) dX1_word_26 ?_
          refine lv_ior hx hb dX1_word_27 ?_
          refine lv_istore_n (lv' := [(2, .int (((z_mwordN ob b i) <<< (8 &&& 31)) ||| (ob (b + i)))), (0, .ref h), (1, .int (nI b)), (3, .int (nI (b + i)))]) hx hb dX1_word_28 rfl hl (by decide) rfl (fun ls hl => ?_)
          refine lv_iinc (v := (nI ((b + i) + 1))) (lv' := [(3, .int (nI ((b + i) + 1))), (2, .int (((z_mwordN ob b i) <<< (8 &&& 31)) ||| (ob (b + i)))), (0, .ref h), (1, .int (nI b))]) hx hb dX1_word_29 hl (k := 3) rfl (z_inc _ _ rfl) (by decide) rfl (fun ls hl => ?_)
          refine lv_goto (tgt := 4) hx hb dX1_word_32 (by decide) ?_
          exact ih_4 (i + 1) _ (by omega) (by omega) (lv_sub hl [2, 3, 1, 0] rfl)
  exact lp_4 _ 0 _ (by omega) (Nat.lt_succ_self _) (lv_sub hl [2, 3, 1, 0] rfl)
abbrev rm_X1_baseDigest : Room := { frames := 1, cells := 0, slots := 0, locals := 23 }
set_option maxHeartbeats 4000000 in
set_option maxRecDepth 100000 in
theorem k_X1_baseDigest (l : Launch) (D : va_G) (cI : ClassId) (h q : Nat) (ob : RW)   : zMR l D cI yX1_baseDigest wsX1_baseDigest rm_X1_baseDigest [.ref h] (wM cI h q ob) (.int (z_mword ob 2)) := by
  refine zEntR (cc := cX1_baseDigest) (maxL := 1) (ret := (some .int)) (own := RX1) (lvs := [(0, .ref h)]) (by decide) rfl rfl rfl rfl (Nat.le_of_ble_eq_true rfl) rfl ?_
  intro p0 e s m args below meth c Q ls hx hb hml hts hown hP hK hN hl hret hretA
  refine lv_aload_n hx hb dX1_baseDigest_0 rfl (lv_at hl 0 rfl) ?_
  refine lv_iconst (v := 2) hx hb dX1_baseDigest_1 (by decide) ?_
  refine zVR (As := [.int 2]) (rest := []) ⟨hx, hb, hml, hown, hts⟩ (k_X1_word l D cI h q ob 2 (by omega)) (cwV 1 hts gX1_baseDigest_X1_word rfl rfl rfl (by decide +kernel) ⟨Nat.le_of_ble_eq_true rfl, Nat.le_of_ble_eq_true rfl⟩) hP hK hN [0, 1] rfl (va_recv hK hP (ci := 1) (q0 := 0) rfl rfl) rfl hl.1 rfl (Nat.le_of_ble_eq_true rfl) dX1_baseDigest_2 ⟨Nat.zero_le _, Nat.zero_le _⟩ ?_
  exact hret 5 ls (z_mword ob 2) _ dX1_baseDigest_5 rfl rfl (congrArg Value.int (by rfl))
abbrev rm_X1_payloadDigest : Room := { frames := 1, cells := 0, slots := 0, locals := 23 }
set_option maxHeartbeats 4000000 in
set_option maxRecDepth 100000 in
theorem k_X1_payloadDigest (l : Launch) (D : va_G) (cI : ClassId) (h q : Nat) (ob : RW)   : zMR l D cI yX1_payloadDigest wsX1_payloadDigest rm_X1_payloadDigest [.ref h] (wM cI h q ob) (.int (z_mword ob 7)) := by
  refine zEntR (cc := cX1_payloadDigest) (maxL := 1) (ret := (some .int)) (own := RX1) (lvs := [(0, .ref h)]) (by decide) rfl rfl rfl rfl (Nat.le_of_ble_eq_true rfl) rfl ?_
  intro p0 e s m args below meth c Q ls hx hb hml hts hown hP hK hN hl hret hretA
  refine lv_aload_n hx hb dX1_payloadDigest_0 rfl (lv_at hl 0 rfl) ?_
  refine lv_bipush (v := 7) hx hb dX1_payloadDigest_1 (by decide) ?_
  refine zVR (As := [.int 7]) (rest := []) ⟨hx, hb, hml, hown, hts⟩ (k_X1_word l D cI h q ob 7 (by omega)) (cwV 1 hts gX1_payloadDigest_X1_word rfl rfl rfl (by decide +kernel) ⟨Nat.le_of_ble_eq_true rfl, Nat.le_of_ble_eq_true rfl⟩) hP hK hN [0, 1] rfl (va_recv hK hP (ci := 1) (q0 := 0) rfl rfl) rfl hl.1 rfl (Nat.le_of_ble_eq_true rfl) dX1_payloadDigest_3 ⟨Nat.zero_le _, Nat.zero_le _⟩ ?_
  exact hret 6 ls (z_mword ob 7) _ dX1_payloadDigest_6 rfl rfl (congrArg Value.int (by rfl))
abbrev rm_X1_imageDigest : Room := { frames := 1, cells := 0, slots := 0, locals := 23 }
set_option maxHeartbeats 4000000 in
set_option maxRecDepth 100000 in
theorem k_X1_imageDigest (l : Launch) (D : va_G) (cI : ClassId) (h q : Nat) (ob : RW)   : zMR l D cI yX1_imageDigest wsX1_imageDigest rm_X1_imageDigest [.ref h] (wM cI h q ob) (.int (z_mword ob 12)) := by
  refine zEntR (cc := cX1_imageDigest) (maxL := 1) (ret := (some .int)) (own := RX1) (lvs := [(0, .ref h)]) (by decide) rfl rfl rfl rfl (Nat.le_of_ble_eq_true rfl) rfl ?_
  intro p0 e s m args below meth c Q ls hx hb hml hts hown hP hK hN hl hret hretA
  refine lv_aload_n hx hb dX1_imageDigest_0 rfl (lv_at hl 0 rfl) ?_
  refine lv_bipush (v := 12) hx hb dX1_imageDigest_1 (by decide) ?_
  refine zVR (As := [.int 12]) (rest := []) ⟨hx, hb, hml, hown, hts⟩ (k_X1_word l D cI h q ob 12 (by omega)) (cwV 1 hts gX1_imageDigest_X1_word rfl rfl rfl (by decide +kernel) ⟨Nat.le_of_ble_eq_true rfl, Nat.le_of_ble_eq_true rfl⟩) hP hK hN [0, 1] rfl (va_recv hK hP (ci := 1) (q0 := 0) rfl rfl) rfl hl.1 rfl (Nat.le_of_ble_eq_true rfl) dX1_imageDigest_3 ⟨Nat.zero_le _, Nat.zero_le _⟩ ?_
  exact hret 6 ls (z_mword ob 12) _ dX1_imageDigest_6 rfl rfl (congrArg Value.int (by rfl))
abbrev rm_X1_isInRange : Room := { frames := 1, cells := 0, slots := 0, locals := 20 }
set_option maxRecDepth 20000 in
theorem qX1_isInRange_8 : (Cond.initialized RX5 : Cond) ∈ wsX1_isInRange := List.mem_of_getElem? (i := 8) rfl
set_option maxRecDepth 20000 in
theorem qX1_isInRange_7 : (Cond.static yX5_isSequence : Cond) ∈ wsX1_isInRange := List.mem_of_getElem? (i := 7) rfl
set_option maxRecDepth 20000 in
theorem qX1_isInRange_14 : (Cond.static yX5_isLength : Cond) ∈ wsX1_isInRange := List.mem_of_getElem? (i := 14) rfl
set_option maxHeartbeats 4000000 in
set_option maxRecDepth 100000 in
theorem k_X1_isInRange (l : Launch) (D : va_G) (cI : ClassId) (h q : Nat) (ob : RW)   : zMR l D cI yX1_isInRange wsX1_isInRange rm_X1_isInRange [.ref h] (wM cI h q ob) (.int (z_mRange ob)) := by
  refine zEntR (cc := cX1_isInRange) (maxL := 1) (ret := (some .boolean)) (own := RX1) (lvs := [(0, .ref h)]) (by decide) rfl rfl rfl rfl (Nat.le_of_ble_eq_true rfl) rfl ?_
  intro p0 e s m args below meth c Q ls hx hb hml hts hown hP hK hN hl hret hretA
  refine lv_aload_n hx hb dX1_isInRange_0 rfl (lv_at hl 0 rfl) ?_
  refine zVR (As := []) (rest := []) ⟨hx, hb, hml, hown, hts⟩ (k_X1_sequence l D cI h q ob) (cwV 0 hts gX1_isInRange_X1_sequence rfl rfl rfl (by decide +kernel) ⟨Nat.le_of_ble_eq_true rfl, Nat.le_of_ble_eq_true rfl⟩) hP hK hN [0, 1] rfl (va_recv hK hP (ci := 1) (q0 := 0) rfl rfl) rfl hl.1 rfl (Nat.le_of_ble_eq_true rfl) dX1_isInRange_1 ⟨Nat.zero_le _, Nat.zero_le _⟩ ?_
  refine zNR (As := [.int (ob 1)]) (rest := []) ⟨hx, hb, hml, hown, hts⟩ (k_X5_isSequence l D cI (ob 1)) ⟨va_cnB 1 hts gX1_isInRange_X5_isSequence_n37 rfl rfl rfl (zN_at hN 13 rfl) (hts _ qX1_isInRange_8) (by decide +kernel) ⟨Nat.le_of_ble_eq_true rfl, Nat.le_of_ble_eq_true rfl⟩, hts _ qX1_isInRange_7, trivial⟩ hP hK hN [] rfl rfl hl.1 rfl (Nat.le_of_ble_eq_true rfl) dX1_isInRange_4 ⟨Nat.zero_le _, Nat.zero_le _⟩ ?_
  refine lv_if_eq (tgt := 34) hx hb dX1_isInRange_7 (by decide) (fun c_7 => ?_) (fun c_7 => ?_)
  · -- 7 t
    refine lv_iconst (v := 0) hx hb dX1_isInRange_34 (by decide) ?_
    exact hret 35 ls 0 _ dX1_isInRange_35 rfl rfl (congrArg Value.int (by first | (simp only [z_mRange, if_pos c_7]; done) | rfl))
  · -- 7 f
    refine lv_aload_n hx hb dX1_isInRange_10 rfl (lv_at hl 0 rfl) ?_
    refine zVR (As := []) (rest := []) ⟨hx, hb, hml, hown, hts⟩ (k_X1_payloadLength l D cI h q ob) (cwV 0 hts gX1_isInRange_X1_payloadLength rfl rfl rfl (by decide +kernel) ⟨Nat.le_of_ble_eq_true rfl, Nat.le_of_ble_eq_true rfl⟩) hP hK hN [0, 1] rfl (va_recv hK hP (ci := 1) (q0 := 0) rfl rfl) rfl hl.1 rfl (Nat.le_of_ble_eq_true rfl) dX1_isInRange_11 ⟨Nat.zero_le _, Nat.zero_le _⟩ ?_
    refine zNR (As := [.int (ob 6)]) (rest := []) ⟨hx, hb, hml, hown, hts⟩ (k_X5_isLength l D cI (ob 6)) ⟨va_cnB 1 hts gX1_isInRange_X5_isLength_n44 rfl rfl rfl (zN_at hN 14 rfl) (hts _ qX1_isInRange_8) (by decide +kernel) ⟨Nat.le_of_ble_eq_true rfl, Nat.le_of_ble_eq_true rfl⟩, hts _ qX1_isInRange_14, trivial⟩ hP hK hN [] rfl rfl hl.1 rfl (Nat.le_of_ble_eq_true rfl) dX1_isInRange_14 ⟨Nat.zero_le _, Nat.zero_le _⟩ ?_
    refine lv_if_eq (tgt := 34) hx hb dX1_isInRange_17 (by decide) (fun c_17 => ?_) (fun c_17 => ?_)
    · -- 17 t
      refine lv_iconst (v := 0) hx hb dX1_isInRange_34 (by decide) ?_
      exact hret 35 ls 0 _ dX1_isInRange_35 rfl rfl (congrArg Value.int (by first | (simp only [z_mRange, if_neg c_7, if_pos c_17]; done) | rfl))
    · -- 17 f
      refine lv_aload_n hx hb dX1_isInRange_20 rfl (lv_at hl 0 rfl) ?_
      refine zVR (As := []) (rest := []) ⟨hx, hb, hml, hown, hts⟩ (k_X1_imageLength l D cI h q ob) (cwV 0 hts gX1_isInRange_X1_imageLength rfl rfl rfl (by decide +kernel) ⟨Nat.le_of_ble_eq_true rfl, Nat.le_of_ble_eq_true rfl⟩) hP hK hN [0, 1] rfl (va_recv hK hP (ci := 1) (q0 := 0) rfl rfl) rfl hl.1 rfl (Nat.le_of_ble_eq_true rfl) dX1_isInRange_21 ⟨Nat.zero_le _, Nat.zero_le _⟩ ?_
      refine zNR (As := [.int (ob 11)]) (rest := []) ⟨hx, hb, hml, hown, hts⟩ (k_X5_isLength l D cI (ob 11)) ⟨va_cnB 1 hts gX1_isInRange_X5_isLength_n44 rfl rfl rfl (zN_at hN 14 rfl) (hts _ qX1_isInRange_8) (by decide +kernel) ⟨Nat.le_of_ble_eq_true rfl, Nat.le_of_ble_eq_true rfl⟩, hts _ qX1_isInRange_14, trivial⟩ hP hK hN [] rfl rfl hl.1 rfl (Nat.le_of_ble_eq_true rfl) dX1_isInRange_24 ⟨Nat.zero_le _, Nat.zero_le _⟩ ?_
      refine lv_if_eq (tgt := 34) hx hb dX1_isInRange_27 (by decide) (fun c_27 => ?_) (fun c_27 => ?_)
      · -- 27 t
        refine lv_iconst (v := 0) hx hb dX1_isInRange_34 (by decide) ?_
        exact hret 35 ls 0 _ dX1_isInRange_35 rfl rfl (congrArg Value.int (by first | (simp only [z_mRange, if_neg c_7, if_neg c_17, if_pos c_27]; done) | rfl))
      · -- 27 f
        refine lv_iconst (v := 1) hx hb dX1_isInRange_30 (by decide) ?_
        refine lv_goto (tgt := 35) hx hb dX1_isInRange_31 (by decide) ?_
        exact hret 35 ls 1 _ dX1_isInRange_35 rfl rfl (congrArg Value.int (by first | (simp only [z_mRange, if_neg c_7, if_neg c_17, if_neg c_27]; done) | rfl))
abbrev rm_X1_isTagged : Room := { frames := 2, cells := 0, slots := 0, locals := 46 }
set_option maxRecDepth 20000 in
theorem qX1_isTagged_3 : (Cond.initialized RX5 : Cond) ∈ wsX1_isTagged := List.mem_of_getElem? (i := 3) rfl
set_option maxRecDepth 20000 in
theorem qX1_isTagged_2 : (Cond.static yX5_digest : Cond) ∈ wsX1_isTagged := List.mem_of_getElem? (i := 2) rfl
set_option maxRecDepth 20000 in
theorem qX1_isTagged_1 : (Cond.fieldLink RX1 11 "FlashBoot$Manifest" "bytes" "[I" : Cond) ∈ wsX1_isTagged := List.mem_of_getElem? (i := 1) rfl
set_option maxRecDepth 20000 in
theorem iX1_isTagged_X1 : ∀ w ∈ wsX10, w ∈ wsX1_isTagged := by decide +kernel
set_option maxHeartbeats 4000000 in
set_option maxRecDepth 100000 in
theorem k_X1_isTagged (l : Launch) (D : va_G) (cI : ClassId) (h q x : Nat) (ob : RW) (K : RW)   : zMR l D cI yX1_isTagged wsX1_isTagged rm_X1_isTagged [.ref h, .ref x] (wMK cI h q x ob K) (.int (z_mTag ob K)) := by
  refine zEntR (cc := cX1_isTagged) (maxL := 2) (ret := (some .boolean)) (own := RX1) (lvs := [(0, .ref h), (1, .ref x)]) (by decide) rfl rfl rfl rfl (Nat.le_of_ble_eq_true rfl) rfl ?_
  intro p0 e s m args below meth c Q ls hx hb hml hts hown hP hK hN hl hret hretA
  refine lv_iconst (v := 0) hx hb dX1_isTagged_0 (by decide) ?_
  refine lv_aload_n hx hb dX1_isTagged_1 rfl (lv_at hl 1 rfl) ?_
  refine lv_aload_n hx hb dX1_isTagged_2 rfl (lv_at hl 1 rfl) ?_
  refine va_alen (v := 8) hx hb hK hP 2 0 rfl (ty := .int) rfl rfl dX1_isTagged_3 ?_
  refine zNR (As := [.int 0, .ref x, .int 8]) (rest := []) ⟨hx, hb, hml, hown, hts⟩ (k_X5_digest l D cI x K 8 0 8 (by omega)) ⟨va_cnB 3 hts gX1_isTagged_X5_digest_n50 rfl rfl rfl (zN_at hN 15 rfl) (hts _ qX1_isTagged_3) (by decide +kernel) ⟨Nat.le_of_ble_eq_true rfl, Nat.le_of_ble_eq_true rfl⟩, hts _ qX1_isTagged_2, trivial⟩ hP hK hN [2] rfl rfl hl.1 rfl (Nat.le_of_ble_eq_true rfl) dX1_isTagged_4 ⟨Nat.zero_le _, Nat.zero_le _⟩ ?_
  refine lv_aload_n hx hb dX1_isTagged_7 rfl (lv_at hl 0 rfl) ?_
  refine va_get (D := D) (ci := 1) (v := .ref q) (C := RX1) (T := TX1) (N := 1) hx hb hts iX1_isTagged_X1 hown hK hP 0 rfl rfl 0 (by decide) (hts _ qX1_isTagged_1) (fun _ h9 => h9) rfl dX1_isTagged_8 ?_
  refine lv_bipush (v := 16) hx hb dX1_isTagged_11 (by decide) ?_
  refine zNR (As := [.int (z_dig 0 K 8 8), .ref q, .int 16]) (rest := []) ⟨hx, hb, hml, hown, hts⟩ (k_X5_digest l D cI q ob 20 (z_dig 0 K 8 8) 16 (by omega)) ⟨va_cnB 3 hts gX1_isTagged_X5_digest_n50 rfl rfl rfl (zN_at hN 15 rfl) (hts _ qX1_isTagged_3) (by decide +kernel) ⟨Nat.le_of_ble_eq_true rfl, Nat.le_of_ble_eq_true rfl⟩, hts _ qX1_isTagged_2, trivial⟩ hP hK hN [1] rfl rfl hl.1 rfl (Nat.le_of_ble_eq_true rfl) dX1_isTagged_13 ⟨Nat.zero_le _, Nat.zero_le _⟩ ?_
  refine lv_aload_n hx hb dX1_isTagged_16 rfl (lv_at hl 0 rfl) ?_
  refine lv_bipush (v := 16) hx hb dX1_isTagged_17 (by decide) ?_
  refine zVR (As := [.int 16]) (rest := [.int (z_dig (z_dig 0 K 8 8) ob 20 16)]) ⟨hx, hb, hml, hown, hts⟩ (k_X1_word l D cI h q ob 16 (by omega)) (cwV 1 hts gX1_isTagged_X1_word rfl rfl rfl (by decide +kernel) ⟨Nat.le_of_ble_eq_true rfl, Nat.le_of_ble_eq_true rfl⟩) hP hK hN [0, 1] rfl (va_recv hK hP (ci := 1) (q0 := 0) rfl rfl) rfl hl.1 rfl (Nat.le_of_ble_eq_true rfl) dX1_isTagged_19 ⟨Nat.zero_le _, Nat.zero_le _⟩ ?_
  refine lv_icmp_ne (tgt := 29) hx hb dX1_isTagged_22 (by decide) (fun c_22 => ?_) (fun c_22 => ?_)
  · -- 22 t
    refine lv_iconst (v := 0) hx hb dX1_isTagged_29 (by decide) ?_
    exact hret 30 ls 0 _ dX1_isTagged_30 rfl rfl (congrArg Value.int (by first | (simp only [z_mTag, if_neg c_22]; done) | rfl))
  · -- 22 f
    refine lv_iconst (v := 1) hx hb dX1_isTagged_25 (by decide) ?_
    refine lv_goto (tgt := 30) hx hb dX1_isTagged_26 (by decide) ?_
    exact hret 30 ls 1 _ dX1_isTagged_30 rfl rfl (congrArg Value.int (by first | (simp only [z_mTag, if_pos c_22]; done) | rfl))
abbrev rm_X1_readPage : Room := { frames := 1, cells := 0, slots := 0, locals := 21 }
set_option maxRecDepth 20000 in
theorem qX1_readPage_1 : (Cond.fieldLink RX1 11 "FlashBoot$Manifest" "bytes" "[I" : Cond) ∈ wsX1_readPage := List.mem_of_getElem? (i := 1) rfl
set_option maxRecDepth 20000 in
theorem iX1_readPage_X1 : ∀ w ∈ wsX10, w ∈ wsX1_readPage := by decide +kernel
set_option maxHeartbeats 4000000 in
set_option maxRecDepth 100000 in
theorem k_X1_readPage (l : Launch) (D : va_G) (cI : ClassId) (h q x y : Nat) (ob : RW) (f : RW) (p : Int32) (a : Int32) (st : Int32) (n : Int32) (k : Int32)   : zMW (S := RW) l D cI yX1_readPage wsX1_readPage rm_X1_readPage [.ref h, .ref x] (wMF cI h q x y ob f p a st n k) (z_rdP f ob) (fun _ => none) (fun u => wMF cI h q x y u f p a st n k) := by
  refine zEntW (cc := cX1_readPage) (maxL := 3) (ret := none) (own := RX1) (lvs := [(0, .ref h), (1, .ref x)]) (by decide) rfl rfl (Nat.le_of_ble_eq_true rfl) rfl ?_
  intro p0 e s m args below meth c Q ls A hx hb hml hts hown hP hK hN hD hS hA hl hret hretV
  refine lv_iconst (v := 0) hx hb dX1_readPage_0 (by decide) ?_
  refine lv_istore_n (lv' := [(2, .int 0), (0, .ref h), (1, .ref x)]) hx hb dX1_readPage_1 rfl hl (by decide) rfl (fun ls hl => ?_)
  have lp_2 : ∀ (g_2 : Nat) (i : Nat) (H : Heap) (locs : List Loc) (ls : Array Slot), i ≤ 20 → 20 - i < g_2 → va_P D vwCl (wMF cI h q x y (z_rdPN f ob i) f p a st n k) H → va_D A (wMF cI h q x y (z_rdPN f ob i) f p a st n k) → va_S A s.heap H locs → lv_has ls 3 [(0, .ref h), (1, .ref x), (2, .int (nI i))] → W p0 l e rm_X1_readPage s m args below meth c H locs 0 0 Q (F0 m 2 ls []) := by
    intro g_2
    induction g_2 with
    | zero => intro i H locs ls h1 h9_2; exact absurd h9_2 (Nat.not_lt_zero _)
    | succ g_2 ih_2 =>
      intro i H locs ls h1 h9_2 hP hD hS hl
      refine lv_iload_n hx hb dX1_readPage_2 rfl (lv_at hl 2 rfl) ?_
      refine lv_bipush (v := 20) hx hb dX1_readPage_3 (by decide) ?_
      refine z_icmp_ge (tgt := 29) hx hb dX1_readPage_5 (by decide) i 20 rfl rfl (by omega) (by omega) (fun c_5 => ?_) (fun c_5 => ?_)
      · -- 5 t
        exact hretV 29 ls _ _ (z_rdPN f ob i) dX1_readPage_29 rfl rfl (by rw [z_rdP, show 20 = i by omega]) hP hS
      · -- 5 f
        refine lv_aload_n hx hb dX1_readPage_8 rfl (lv_at hl 0 rfl) ?_
        refine va_get (D := D) (ci := 1) (v := .ref q) (C := RX1) (T := TX1) (N := 1) hx hb hts iX1_readPage_X1 hown hK hP 0 rfl rfl 0 (by decide) (hts _ qX1_readPage_1) (fun _ h9 => h9) rfl dX1_readPage_9 ?_
        refine lv_iload_n hx hb dX1_readPage_12 rfl (lv_at hl 2 rfl) ?_
        refine lv_aload_n hx hb dX1_readPage_13 rfl (lv_at hl 1 rfl) ?_
        refine lv_sipush (v := 640) hx hb dX1_readPage_14 (by decide) ?_
        refine lv_iload_n hx hb dX1_readPage_17 rfl (lv_at hl 2 rfl) ?_
        refine lv_iadd hx hb dX1_readPage_18 ?_
        refine z_top (v := nI (640 + i)) (nI_add 640 i) ?_
        refine zVR (As := [.int (nI (640 + i))]) (rest := [.int (nI i), .ref q]) ⟨hx, hb, hml, hown, hts⟩ (k_X0_at l D cI x y f p a st n k (nI (640 + i))) (cwV 1 hts gX1_readPage_X0_at rfl rfl rfl (by decide +kernel) ⟨Nat.le_of_ble_eq_true rfl, Nat.le_of_ble_eq_true rfl⟩) hP hK hN [2, 3] rfl (va_recv hK hP (ci := 0) (q0 := 2) rfl rfl) rfl hl.1 rfl (Nat.le_of_ble_eq_true rfl) dX1_readPage_19 ⟨Nat.zero_le _, Nat.zero_le _⟩ ?_
        refine z_iast hx hb hK hP hD hS 1 0 rfl rfl i (rfl) (by omega) (by decide) dX1_readPage_22 (fun H locs hP hD hS => ?_)
        have hP : va_P D vwCl (wMF cI h q x y (upd (z_rdPN f ob i) i (z_at f (nI (640 + i)))) f p a st n k) _ := hP
        have hD : va_D A (wMF cI h q x y (upd (z_rdPN f ob i) i (z_at f (nI (640 + i)))) f p a st n k) := hD
        refine lv_iinc (v := (nI (i + 1))) (lv' := [(2, .int (nI (i + 1))), (0, .ref h), (1, .ref x)]) hx hb dX1_readPage_23 hl (k := 2) rfl (z_inc _ _ rfl) (by decide) rfl (fun ls hl => ?_)
        refine lv_goto (tgt := 2) hx hb dX1_readPage_26 (by decide) ?_
        exact ih_2 (i + 1) _ _ _ (by omega) (by omega) hP hD hS (lv_sub hl [1, 2, 0] rfl)
  exact lp_2 _ 0 _ _ _ (by omega) (Nat.lt_succ_self _) hP hD hS (lv_sub hl [1, 2, 0] rfl)
abbrev rm_X1_readTape : Room := { frames := 1, cells := 0, slots := 0, locals := 40 }
set_option maxRecDepth 20000 in
theorem iX1_readTape_X4 : ∀ w ∈ wsX40, w ∈ wsX1_readTape := by decide +kernel
set_option maxRecDepth 20000 in
theorem qX1_readTape_1 : (Cond.fieldLink RX1 11 "FlashBoot$Manifest" "bytes" "[I" : Cond) ∈ wsX1_readTape := List.mem_of_getElem? (i := 1) rfl
set_option maxRecDepth 20000 in
theorem iX1_readTape_X1 : ∀ w ∈ wsX10, w ∈ wsX1_readTape := by decide +kernel
set_option maxRecDepth 20000 in
theorem qX1_readTape_2 : (Cond.methodLink RX1 18 arraycopyName : Cond) ∈ wsX1_readTape := List.mem_of_getElem? (i := 2) rfl
set_option maxRecDepth 20000 in
theorem qX1_readTape_3 : (Cond.native arraycopyName : Cond) ∈ wsX1_readTape := List.mem_of_getElem? (i := 3) rfl
set_option maxRecDepth 20000 in
theorem qX1_readTape_4 : (Cond.static arraycopyName : Cond) ∈ wsX1_readTape := List.mem_of_getElem? (i := 4) rfl
set_option maxRecDepth 20000 in
theorem qX1_readTape_5 : (Cond.initialized "java/lang/System" : Cond) ∈ wsX1_readTape := List.mem_of_getElem? (i := 5) rfl
set_option maxHeartbeats 4000000 in
set_option maxRecDepth 100000 in
theorem k_X1_readTape (l : Launch) (D : va_G) (cI : ClassId) (h q x y : Nat) (ob : RW) (tb : RW) (tl : Nat)   : zMW (S := RW) l D cI yX1_readTape wsX1_readTape rm_X1_readTape [.ref h, .ref x] (wMT cI h q x y ob tb tl) (z_rdT tb ob) (fun _ => none) (fun u => wMT cI h q x y u tb tl) := by
  refine zEntW (cc := cX1_readTape) (maxL := 2) (ret := none) (own := RX1) (lvs := [(0, .ref h), (1, .ref x)]) (by decide) rfl rfl (Nat.le_of_ble_eq_true rfl) rfl ?_
  intro p0 e s m args below meth c Q ls A hx hb hml hts hown hP hK hN hD hS hA hl hret hretV
  refine lv_aload_n hx hb dX1_readTape_0 rfl (lv_at hl 1 rfl) ?_
  refine va_getN (host := RX5) (D := D) (ci := 4) (v := .ref y) (C := RX4) (T := TX4) (N := 2) hx hb hts iX1_readTape_X4 hown hK hP 2 rfl rfl 0 (by decide) (zN_use hN 3 rfl) (fun _ h9 => h9) rfl dX1_readTape_1 ?_
  refine lv_iconst (v := 0) hx hb dX1_readTape_4 (by decide) ?_
  refine lv_aload_n hx hb dX1_readTape_5 rfl (lv_at hl 0 rfl) ?_
  refine va_get (D := D) (ci := 1) (v := .ref q) (C := RX1) (T := TX1) (N := 1) hx hb hts iX1_readTape_X1 hown hK hP 0 rfl rfl 0 (by decide) (hts _ qX1_readTape_1) (fun _ h9 => h9) rfl dX1_readTape_6 ?_
  refine lv_iconst (v := 0) hx hb dX1_readTape_9 (by decide) ?_
  refine lv_bipush (v := 20) hx hb dX1_readTape_10 (by decide) ?_
  refine va_copyi hx hb (hml.trans hl.1.symm) hown (hts _ qX1_readTape_2) (hts _ qX1_readTape_3) (hts _ qX1_readTape_4) (hts _ qX1_readTape_5) hK hP hD hS 3 1 0 0 rfl rfl rfl rfl rfl (by decide) (by decide) (by decide) (by decide) (by decide) (fun _ _ => rfl) (Nat.le_of_ble_eq_true rfl) (Nat.le_of_ble_eq_true rfl) dX1_readTape_12 (fun H locs hP hD hS => ?_)
  have hP : va_P D vwCl (wMT cI h q x y (va_cpy tb ob (0 : Int32).toNatClampNeg (0 : Int32).toNatClampNeg (20 : Int32).toNatClampNeg) tb tl) _ := hP
  have hD : va_D A (wMT cI h q x y (va_cpy tb ob (0 : Int32).toNatClampNeg (0 : Int32).toNatClampNeg (20 : Int32).toNatClampNeg) tb tl) := hD
  exact hretV 15 ls _ _ (va_cpy tb ob (0 : Int32).toNatClampNeg (0 : Int32).toNatClampNeg (20 : Int32).toNatClampNeg) dX1_readTape_15 rfl rfl (by rfl) hP hS
abbrev rm_X1_standsIn : Room := { frames := 1, cells := 0, slots := 0, locals := 21 }
set_option maxRecDepth 20000 in
theorem qX1_standsIn_1 : (Cond.fieldLink RX1 11 "FlashBoot$Manifest" "bytes" "[I" : Cond) ∈ wsX1_standsIn := List.mem_of_getElem? (i := 1) rfl
set_option maxRecDepth 20000 in
theorem iX1_standsIn_X1 : ∀ w ∈ wsX10, w ∈ wsX1_standsIn := by decide +kernel
set_option maxHeartbeats 4000000 in
set_option maxRecDepth 100000 in
theorem k_X1_standsIn (l : Launch) (D : va_G) (cI : ClassId) (h q x y : Nat) (ob : RW) (f : RW) (p : Int32) (a : Int32) (st : Int32) (n : Int32) (k : Int32)   : zMR l D cI yX1_standsIn wsX1_standsIn rm_X1_standsIn [.ref h, .ref x] (wMF cI h q x y ob f p a st n k) (.int (z_stand f ob)) := by
  refine zEntR (cc := cX1_standsIn) (maxL := 3) (ret := (some .boolean)) (own := RX1) (lvs := [(0, .ref h), (1, .ref x)]) (by decide) rfl rfl rfl rfl (Nat.le_of_ble_eq_true rfl) rfl ?_
  intro p0 e s m args below meth c Q ls hx hb hml hts hown hP hK hN hl hret hretA
  refine lv_iconst (v := 0) hx hb dX1_standsIn_0 (by decide) ?_
  refine lv_istore_n (lv' := [(2, .int 0), (0, .ref h), (1, .ref x)]) hx hb dX1_standsIn_1 rfl hl (by decide) rfl (fun ls hl => ?_)
  have lp_2 : ∀ (g_2 : Nat) (d : Nat) (i : Nat) (ls : Array Slot), i + d = 20 → z_standN f ob d i = z_standN f ob 20 0 → d < g_2 → lv_has ls 3 [(0, .ref h), (1, .ref x), (2, .int (nI i))] → W p0 l e rm_X1_standsIn s m args below meth c s.heap [] 0 0 Q (F0 m 2 ls []) := by
    intro g_2
    induction g_2 with
    | zero => intro d i ls h1 hy h9_2; exact absurd h9_2 (Nat.not_lt_zero _)
    | succ g_2 ih_2 =>
      intro d i ls h1 hy h9_2 hl
      refine lv_iload_n hx hb dX1_standsIn_2 rfl (lv_at hl 2 rfl) ?_
      refine lv_bipush (v := 20) hx hb dX1_standsIn_3 (by decide) ?_
      refine z_icmp_ge (tgt := 34) hx hb dX1_standsIn_5 (by decide) i 20 rfl rfl (by omega) (by omega) (fun c_5 => ?_) (fun c_5 => ?_)
      · -- 5 t
        obtain rfl : d = 0 := by omega
        refine lv_iconst (v := 1) hx hb dX1_standsIn_34 (by decide) ?_
        exact hret 35 ls 1 _ dX1_standsIn_35 rfl rfl (congrArg Value.int (hy))
      · -- 5 f
        obtain ⟨d, rfl⟩ : ∃ d1, d = d1 + 1 := ⟨d - 1, by omega⟩
        refine lv_aload_n hx hb dX1_standsIn_8 rfl (lv_at hl 0 rfl) ?_
        refine va_get (D := D) (ci := 1) (v := .ref q) (C := RX1) (T := TX1) (N := 1) hx hb hts iX1_standsIn_X1 hown hK hP 0 rfl rfl 0 (by decide) (hts _ qX1_standsIn_1) (fun _ h9 => h9) rfl dX1_standsIn_9 ?_
        refine lv_iload_n hx hb dX1_standsIn_12 rfl (lv_at hl 2 rfl) ?_
        refine z_iald hx hb hK hP 1 0 rfl rfl i rfl (by omega) (by decide) dX1_standsIn_13 ?_
        refine lv_aload_n hx hb dX1_standsIn_14 rfl (lv_at hl 1 rfl) ?_
        refine lv_sipush (v := 640) hx hb dX1_standsIn_15 (by decide) ?_
        refine lv_iload_n hx hb dX1_standsIn_18 rfl (lv_at hl 2 rfl) ?_
        refine lv_iadd hx hb dX1_standsIn_19 ?_
        refine z_top (v := nI (640 + i)) (nI_add 640 i) ?_
        refine zVR (As := [.int (nI (640 + i))]) (rest := [.int (ob i)]) ⟨hx, hb, hml, hown, hts⟩ (k_X0_at l D cI x y f p a st n k (nI (640 + i))) (cwV 1 hts gX1_standsIn_X0_at rfl rfl rfl (by decide +kernel) ⟨Nat.le_of_ble_eq_true rfl, Nat.le_of_ble_eq_true rfl⟩) hP hK hN [2, 3] rfl (va_recv hK hP (ci := 0) (q0 := 2) rfl rfl) rfl hl.1 rfl (Nat.le_of_ble_eq_true rfl) dX1_standsIn_20 ⟨Nat.zero_le _, Nat.zero_le _⟩ ?_
        refine lv_icmp_eq (tgt := 28) hx hb dX1_standsIn_23 (by decide) (fun c_23 => ?_) (fun c_23 => ?_)
        · -- 23 t
          refine lv_iinc (v := (nI (i + 1))) (lv' := [(2, .int (nI (i + 1))), (0, .ref h), (1, .ref x)]) hx hb dX1_standsIn_28 hl (k := 2) rfl (z_inc _ _ rfl) (by decide) rfl (fun ls hl => ?_)
          refine lv_goto (tgt := 2) hx hb dX1_standsIn_31 (by decide) ?_
          exact ih_2 d (i + 1) _ (by omega) (by rw [← hy, z_standN, if_pos c_23]) (by omega) (lv_sub hl [1, 2, 0] rfl)
        · -- 23 f
          refine lv_iconst (v := 0) hx hb dX1_standsIn_26 (by decide) ?_
          exact hret 27 ls 0 _ dX1_standsIn_27 rfl rfl (congrArg Value.int (by rw [z_stand, ← hy, z_standN, if_neg c_23]))
  exact lp_2 _ 20 0 _ (by omega) rfl (Nat.lt_succ_self _) (lv_sub hl [1, 2, 0] rfl)
abbrev rm_X4_add : Room := { frames := 0, cells := 0, slots := 0, locals := 0 }
set_option maxRecDepth 20000 in
theorem qX4_add_1 : (Cond.fieldLink RX4 15 "FlashBoot$Tape" "length" "I" : Cond) ∈ wsX4_add := List.mem_of_getElem? (i := 1) rfl
set_option maxRecDepth 20000 in
theorem iX4_add_X4 : ∀ w ∈ wsX40, w ∈ wsX4_add := by decide +kernel
set_option maxRecDepth 20000 in
theorem qX4_add_2 : (Cond.fieldLink RX4 9 "FlashBoot$Tape" "bytes" "[I" : Cond) ∈ wsX4_add := List.mem_of_getElem? (i := 2) rfl
set_option maxHeartbeats 4000000 in
set_option maxRecDepth 100000 in
theorem k_X4_add (l : Launch) (D : va_G) (cI : ClassId) (h q : Nat) (tb : RW) (tl : Nat) (x : Int64) (nn : Nat) (hnn : nn ≤ 8) (htl : tl ≤ 192) : zMW (S := Int32 × RW × Nat) l D cI yX4_add wsX4_add rm_X4_add [.ref h, .long x, .int (nI nn)] (wT cI h q tb tl) (z_add x nn (tb, tl)) (fun u => some (.int u.1)) (fun u => wT cI h q u.2.1 u.2.2) := by
  refine zEntW (cc := cX4_add) (maxL := 5) (ret := (some .boolean)) (own := RX4) (lvs := [(0, .ref h), (1, .long x), (3, .int (nI nn))]) (by decide) rfl rfl (Nat.le_of_ble_eq_true rfl) rfl ?_
  intro p0 e s m args below meth c Q ls A hx hb hml hts hown hP hK hN hD hS hA hl hret hretV
  refine lv_aload_n hx hb dX4_add_0 rfl (lv_at hl 0 rfl) ?_
  refine va_get (D := D) (ci := 4) (v := .int (nI tl)) (C := RX4) (T := TX4) (N := 2) hx hb hts iX4_add_X4 hown hK hP 0 rfl rfl 1 (by decide) (hts _ qX4_add_1) (fun _ h9 => h9) rfl dX4_add_1 ?_
  refine lv_iload_n hx hb dX4_add_4 rfl (lv_at hl 2 rfl) ?_
  refine lv_iadd hx hb dX4_add_5 ?_
  refine z_top (v := nI (tl + nn)) (nI_add tl nn) ?_
  refine lv_sipush (v := 192) hx hb dX4_add_6 (by decide) ?_
  refine z_icmp_le (tgt := 14) hx hb dX4_add_9 (by decide) (tl + nn) 192 rfl rfl (by omega) (by omega) (fun c_9 => ?_) (fun c_9 => ?_)
  · -- 9 t
    refine lv_iload_n hx hb dX4_add_14 rfl (lv_at hl 2 rfl) ?_
    refine lv_iconst (v := 1) hx hb dX4_add_15 (by decide) ?_
    refine lv_isub hx hb dX4_add_16 ?_
    refine lv_istore (lv' := [(4, .int ((nI nn) - 1)), (0, .ref h), (1, .long x), (3, .int (nI nn))]) hx hb dX4_add_17 hl (by decide) rfl (fun ls hl => ?_)
    have lp_19 : ∀ (g_19 : Nat) (m2 : Nat) (tb9 : RW) (t9 : Nat) (H : Heap) (locs : List Loc) (ls : Array Slot), t9 + m2 = tl + nn → z_addN x m2 tb9 t9 = z_addN x nn tb tl → m2 < g_19 → va_P D vwCl (wT cI h q tb9 t9) H → va_D A (wT cI h q tb9 t9) → va_S A s.heap H locs → lv_has ls 5 [(0, .ref h), (1, .long x), (3, .int (nI nn)), (4, .int (nI m2 - 1))] → W p0 l e rm_X4_add s m args below meth c H locs 0 0 Q (F0 m 19 ls []) := by
      intro g_19
      induction g_19 with
      | zero => intro m2 tb9 t9 H locs ls h1 hy h9_19; exact absurd h9_19 (Nat.not_lt_zero _)
      | succ g_19 ih_19 =>
        intro m2 tb9 t9 H locs ls h1 hy h9_19 hP hD hS hl
        refine lv_iload hx hb dX4_add_19 (lv_at hl 3 rfl) ?_
        refine lv_if_lt (tgt := 61) hx hb dX4_add_21 (by decide) (fun c_21 => ?_) (fun c_21 => ?_)
        · -- 21 t
          obtain rfl : m2 = 0 := by
            rcases m2 with _ | m1
            · rfl
            · exact absurd (by rw [z_dec] at c_21; exact c_21) (nI_pos (by omega))
          refine lv_iconst (v := 1) hx hb dX4_add_61 (by decide) ?_
          exact hret 62 ls _ _ (1, tb9, t9) 1 _ dX4_add_62 rfl rfl rfl (by rw [z_add, if_pos c_9, ← hy, ← (show t9 = tl + nn by omega)]; rfl) hP hS
        · -- 21 f
          obtain ⟨m1, rfl⟩ : ∃ m1, m2 = m1 + 1 := by
            rcases m2 with _ | m1
            · exact absurd (by decide) c_21
            · exact ⟨m1, rfl⟩
          rw [z_dec] at hl
          refine lv_aload_n hx hb dX4_add_24 rfl (lv_at hl 0 rfl) ?_
          refine va_get (D := D) (ci := 4) (v := .ref q) (C := RX4) (T := TX4) (N := 2) hx hb hts iX4_add_X4 hown hK hP 0 rfl rfl 0 (by decide) (hts _ qX4_add_2) (fun _ h9 => h9) rfl dX4_add_25 ?_
          refine lv_aload_n hx hb dX4_add_28 rfl (lv_at hl 0 rfl) ?_
          refine va_get (D := D) (ci := 4) (v := .int (nI t9)) (C := RX4) (T := TX4) (N := 2) hx hb hts iX4_add_X4 hown hK hP 0 rfl rfl 1 (by decide) (hts _ qX4_add_1) (fun _ h9 => h9) rfl dX4_add_29 ?_
          refine lv_lload_n hx hb dX4_add_32 rfl (lv_at hl 1 rfl) ?_
          refine lv_bipush (v := 8) hx hb dX4_add_33 (by decide) ?_
          refine lv_iload hx hb dX4_add_35 (lv_at hl 3 rfl) ?_
          refine lv_imul hx hb dX4_add_37 ?_
          refine z_top (v := nI (8 * m1)) (pk_mul 8 m1) ?_
          refine lv_lushr (v := zlushr x (nI (8 * m1))) hx hb dX4_add_38 rfl ?_
          refine lv_l2i (v := Int64.toInt32 (zlushr x (nI (8 * m1)))) hx hb dX4_add_39 rfl ?_
          refine lv_sipush (v := 255) hx hb dX4_add_40 (by decide) ?_
          refine lv_iand hx hb dX4_add_43 ?_
          refine z_iast hx hb hK hP hD hS 1 0 rfl rfl t9 (rfl) (by omega) (by decide) dX4_add_44 (fun H locs hP hD hS => ?_)
          have hP : va_P D vwCl (wT cI h q (upd tb9 t9 ((Int64.toInt32 (zlushr x (nI (8 * m1)))) &&& 255)) t9) _ := hP
          have hD : va_D A (wT cI h q (upd tb9 t9 ((Int64.toInt32 (zlushr x (nI (8 * m1)))) &&& 255)) t9) := hD
          refine lv_aload_n hx hb dX4_add_45 rfl (lv_at hl 0 rfl) ?_
          refine lv_dup hx hb dX4_add_46 rfl ?_
          refine va_get (D := D) (ci := 4) (v := .int (nI t9)) (C := RX4) (T := TX4) (N := 2) hx hb hts iX4_add_X4 hown hK hP 0 rfl rfl 1 (by decide) (hts _ qX4_add_1) (fun _ h9 => h9) rfl dX4_add_47 ?_
          refine lv_iconst (v := 1) hx hb dX4_add_50 (by decide) ?_
          refine lv_iadd hx hb dX4_add_51 ?_
          refine z_top (v := nI (t9 + 1)) (nI_add t9 1) ?_
          refine va_put (D := D) (ci := 4) (v := .int (nI (t9 + 1))) (ty := .int) (C := RX4) (T := TX4) (N := 2) hx hb hts iX4_add_X4 tyX4 tyX4_ok nmX4 hown hK hP hD hS 0 rfl rfl 1 (by decide) (hts _ qX4_add_1) (fun _ h9 => h9) rfl (by decide +kernel) rfl rfl (Nat.le_of_ble_eq_true rfl) dX4_add_52 (fun H locs hP hD hS => ?_)
          have hP : va_P D vwCl (wT cI h q (upd tb9 t9 ((Int64.toInt32 (zlushr x (nI (8 * m1)))) &&& 255)) (t9 + 1)) _ := hP
          have hD : va_D A (wT cI h q (upd tb9 t9 ((Int64.toInt32 (zlushr x (nI (8 * m1)))) &&& 255)) (t9 + 1)) := hD
          refine lv_iinc (v := (nI m1 - 1)) (lv' := [(4, .int (nI m1 - 1)), (0, .ref h), (1, .long x), (3, .int (nI nn))]) hx hb dX4_add_55 hl (k := 3) rfl (z_addm1 _) (by decide) rfl (fun ls hl => ?_)
          refine lv_goto (tgt := 19) hx hb dX4_add_58 (by decide) ?_
          exact ih_19 m1 (upd tb9 t9 ((Int64.toInt32 (zlushr x (nI (8 * m1)))) &&& 255)) (t9 + 1) _ _ _ (by omega) (by rw [← hy, z_addN]; rfl) (by omega) hP hD hS (lv_sub hl [1, 2, 3, 0] rfl)
    exact lp_19 _ nn tb tl _ _ _ (by omega) rfl (Nat.lt_succ_self _) hP hD hS (lv_sub hl [1, 2, 3, 0] rfl)
  · -- 9 f
    refine lv_iconst (v := 0) hx hb dX4_add_12 (by decide) ?_
    exact hret 13 ls _ _ (0, tb, tl) 0 _ dX4_add_13 rfl rfl rfl (by first | (simp only [z_add, if_neg (Nat.not_le_of_lt c_9)]; done) | rfl) hP hS
abbrev rm_X2_take : Room := { frames := 1, cells := 0, slots := 0, locals := 21 }
set_option maxRecDepth 20000 in
theorem qX2_take_1 : (Cond.fieldLink RX2 15 "FlashBoot$Patch" "made" "I" : Cond) ∈ wsX2_take := List.mem_of_getElem? (i := 1) rfl
set_option maxRecDepth 20000 in
theorem iX2_take_X2 : ∀ w ∈ wsX20, w ∈ wsX2_take := by decide +kernel
set_option maxRecDepth 20000 in
theorem qX2_take_2 : (Cond.fieldLink RX2 9 "FlashBoot$Patch" "image" "[I" : Cond) ∈ wsX2_take := List.mem_of_getElem? (i := 2) rfl
set_option maxHeartbeats 4000000 in
set_option maxRecDepth 100000 in
theorem k_X2_take (l : Launch) (D : va_G) (cI : ClassId) (h q x y : Nat) (im : RW) (md : Nat) (f : RW) (p : Int32) (a : Int32) (st : Int32) (n : Int32) (k : Int32) (fr : Nat) (ct : Nat) (hmd : md ≤ 192) (hct : ct ≤ 300) (hfr : fr ≤ 2000) : zMW (S := Int32 × RW × Nat) l D cI yX2_take wsX2_take rm_X2_take [.ref h, .ref x, .int (nI fr), .int (nI ct)] (wPF cI h q x y im md f p a st n k) (z_take f fr ct (im, md)) (fun u => some (.int u.1)) (fun u => wPF cI h q x y u.2.1 u.2.2 f p a st n k) := by
  refine zEntW (cc := cX2_take) (maxL := 5) (ret := (some .boolean)) (own := RX2) (lvs := [(0, .ref h), (1, .ref x), (2, .int (nI fr)), (3, .int (nI ct))]) (by decide) rfl rfl (Nat.le_of_ble_eq_true rfl) rfl ?_
  intro p0 e s m args below meth c Q ls A hx hb hml hts hown hP hK hN hD hS hA hl hret hretV
  refine lv_aload_n hx hb dX2_take_0 rfl (lv_at hl 0 rfl) ?_
  refine va_get (D := D) (ci := 2) (v := .int (nI md)) (C := RX2) (T := TX2) (N := 2) hx hb hts iX2_take_X2 hown hK hP 0 rfl rfl 1 (by decide) (hts _ qX2_take_1) (fun _ h9 => h9) rfl dX2_take_1 ?_
  refine lv_iload_n hx hb dX2_take_4 rfl (lv_at hl 3 rfl) ?_
  refine lv_iadd hx hb dX2_take_5 ?_
  refine z_top (v := nI (md + ct)) (nI_add md ct) ?_
  refine lv_sipush (v := 192) hx hb dX2_take_6 (by decide) ?_
  refine z_icmp_le (tgt := 14) hx hb dX2_take_9 (by decide) (md + ct) 192 rfl rfl (by omega) (by omega) (fun c_9 => ?_) (fun c_9 => ?_)
  · -- 9 t
    refine lv_iconst (v := 0) hx hb dX2_take_14 (by decide) ?_
    refine lv_istore (lv' := [(4, .int 0), (0, .ref h), (1, .ref x), (2, .int (nI fr)), (3, .int (nI ct))]) hx hb dX2_take_15 hl (by decide) rfl (fun ls hl => ?_)
    have lp_17 : ∀ (g_17 : Nat) (i : Nat) (H : Heap) (locs : List Loc) (ls : Array Slot), i ≤ ct → ct - i < g_17 → va_P D vwCl (wPF cI h q x y (z_takeN f fr im md i) (md + i) f p a st n k) H → va_D A (wPF cI h q x y (z_takeN f fr im md i) (md + i) f p a st n k) → va_S A s.heap H locs → lv_has ls 5 [(0, .ref h), (1, .ref x), (2, .int (nI fr)), (3, .int (nI ct)), (4, .int (nI i))] → W p0 l e rm_X2_take s m args below meth c H locs 0 0 Q (F0 m 17 ls []) := by
      intro g_17
      induction g_17 with
      | zero => intro i H locs ls h1 h9_17; exact absurd h9_17 (Nat.not_lt_zero _)
      | succ g_17 ih_17 =>
        intro i H locs ls h1 h9_17 hP hD hS hl
        refine lv_iload hx hb dX2_take_17 (lv_at hl 4 rfl) ?_
        refine lv_iload_n hx hb dX2_take_19 rfl (lv_at hl 3 rfl) ?_
        refine z_icmp_ge (tgt := 56) hx hb dX2_take_20 (by decide) i ct rfl rfl (by omega) (by omega) (fun c_20 => ?_) (fun c_20 => ?_)
        · -- 20 t
          refine lv_iconst (v := 1) hx hb dX2_take_56 (by decide) ?_
          exact hret 57 ls _ _ (1, z_takeN f fr im md i, (md + i)) 1 _ dX2_take_57 rfl rfl rfl (by rw [z_take, if_pos c_9, show ct = i by omega]) hP hS
        · -- 20 f
          refine lv_aload_n hx hb dX2_take_23 rfl (lv_at hl 0 rfl) ?_
          refine va_get (D := D) (ci := 2) (v := .ref q) (C := RX2) (T := TX2) (N := 2) hx hb hts iX2_take_X2 hown hK hP 0 rfl rfl 0 (by decide) (hts _ qX2_take_2) (fun _ h9 => h9) rfl dX2_take_24 ?_
          refine lv_aload_n hx hb dX2_take_27 rfl (lv_at hl 0 rfl) ?_
          refine va_get (D := D) (ci := 2) (v := .int (nI (md + i))) (C := RX2) (T := TX2) (N := 2) hx hb hts iX2_take_X2 hown hK hP 0 rfl rfl 1 (by decide) (hts _ qX2_take_1) (fun _ h9 => h9) rfl dX2_take_28 ?_
          refine lv_aload_n hx hb dX2_take_31 rfl (lv_at hl 1 rfl) ?_
          refine lv_iload_n hx hb dX2_take_32 rfl (lv_at hl 2 rfl) ?_
          refine lv_iload hx hb dX2_take_33 (lv_at hl 4 rfl) ?_
          refine lv_iadd hx hb dX2_take_35 ?_
          refine z_top (v := nI (fr + i)) (nI_add fr i) ?_
          refine zVR (As := [.int (nI (fr + i))]) (rest := [.int (nI (md + i)), .ref q]) ⟨hx, hb, hml, hown, hts⟩ (k_X0_at l D cI x y f p a st n k (nI (fr + i))) (cwV 1 hts gX2_take_X0_at rfl rfl rfl (by decide +kernel) ⟨Nat.le_of_ble_eq_true rfl, Nat.le_of_ble_eq_true rfl⟩) hP hK hN [2, 3] rfl (va_recv hK hP (ci := 0) (q0 := 2) rfl rfl) rfl hl.1 rfl (Nat.le_of_ble_eq_true rfl) dX2_take_36 ⟨Nat.zero_le _, Nat.zero_le _⟩ ?_
          refine z_iast hx hb hK hP hD hS 1 0 rfl rfl (md + i) (rfl) (by omega) (by decide) dX2_take_39 (fun H locs hP hD hS => ?_)
          have hP : va_P D vwCl (wPF cI h q x y (upd (z_takeN f fr im md i) (md + i) (z_at f (nI (fr + i)))) (md + i) f p a st n k) _ := hP
          have hD : va_D A (wPF cI h q x y (upd (z_takeN f fr im md i) (md + i) (z_at f (nI (fr + i)))) (md + i) f p a st n k) := hD
          refine lv_aload_n hx hb dX2_take_40 rfl (lv_at hl 0 rfl) ?_
          refine lv_dup hx hb dX2_take_41 rfl ?_
          refine va_get (D := D) (ci := 2) (v := .int (nI (md + i))) (C := RX2) (T := TX2) (N := 2) hx hb hts iX2_take_X2 hown hK hP 0 rfl rfl 1 (by decide) (hts _ qX2_take_1) (fun _ h9 => h9) rfl dX2_take_42 ?_
          refine lv_iconst (v := 1) hx hb dX2_take_45 (by decide) ?_
          refine lv_iadd hx hb dX2_take_46 ?_
          refine z_top (v := nI ((md + i) + 1)) (nI_add (md + i) 1) ?_
          refine va_put (D := D) (ci := 2) (v := .int (nI ((md + i) + 1))) (ty := .int) (C := RX2) (T := TX2) (N := 2) hx hb hts iX2_take_X2 tyX2 tyX2_ok nmX2 hown hK hP hD hS 0 rfl rfl 1 (by decide) (hts _ qX2_take_1) (fun _ h9 => h9) rfl (by decide +kernel) rfl rfl (Nat.le_of_ble_eq_true rfl) dX2_take_47 (fun H locs hP hD hS => ?_)
          have hP : va_P D vwCl (wPF cI h q x y (upd (z_takeN f fr im md i) (md + i) (z_at f (nI (fr + i)))) ((md + i) + 1) f p a st n k) _ := hP
          have hD : va_D A (wPF cI h q x y (upd (z_takeN f fr im md i) (md + i) (z_at f (nI (fr + i)))) ((md + i) + 1) f p a st n k) := hD
          refine lv_iinc (v := (nI (i + 1))) (lv' := [(4, .int (nI (i + 1))), (0, .ref h), (1, .ref x), (2, .int (nI fr)), (3, .int (nI ct))]) hx hb dX2_take_50 hl (k := 4) rfl (z_inc _ _ rfl) (by decide) rfl (fun ls hl => ?_)
          refine lv_goto (tgt := 17) hx hb dX2_take_53 (by decide) ?_
          exact ih_17 (i + 1) _ _ _ (by omega) (by omega) hP hD hS (lv_sub hl [1, 2, 3, 4, 0] rfl)
    exact lp_17 _ 0 _ _ _ (Nat.zero_le _) (Nat.lt_succ_self _) hP hD hS (lv_sub hl [1, 2, 3, 4, 0] rfl)
  · -- 9 f
    refine lv_iconst (v := 0) hx hb dX2_take_12 (by decide) ?_
    exact hret 13 ls _ _ (0, im, md) 0 _ dX2_take_13 rfl rfl rfl (by first | (simp only [z_take, if_neg (Nat.not_le_of_lt c_9)]; done) | rfl) hP hS
abbrev rm_X2_takeBase : Room := { frames := 2, cells := 0, slots := 0, locals := 45 }
set_option maxHeartbeats 4000000 in
set_option maxRecDepth 100000 in
theorem k_X2_takeBase (l : Launch) (D : va_G) (cI : ClassId) (h q x y : Nat) (im : RW) (md : Nat) (f : RW) (p : Int32) (a : Int32) (st : Int32) (n : Int32) (k : Int32) (bs : Nat) (bl : Nat) (pl : Nat) (ct : Nat) (hmd : md ≤ 192) (hct : ct ≤ 300) (hpl : pl ≤ 300) (hbs : bs ≤ 300) (hbl : bl ≤ 300) : zMW (S := Int32 × RW × Nat) l D cI yX2_takeBase wsX2_takeBase rm_X2_takeBase [.ref h, .ref x, .int (nI bs), .int (nI bl), .int (nI pl), .int (nI ct)] (wPF cI h q x y im md f p a st n k) (z_takeB f bs bl pl ct (im, md)) (fun u => some (.int u.1)) (fun u => wPF cI h q x y u.2.1 u.2.2 f p a st n k) := by
  refine zEntW (cc := cX2_takeBase) (maxL := 6) (ret := (some .boolean)) (own := RX2) (lvs := [(0, .ref h), (1, .ref x), (2, .int (nI bs)), (3, .int (nI bl)), (4, .int (nI pl)), (5, .int (nI ct))]) (by decide) rfl rfl (Nat.le_of_ble_eq_true rfl) rfl ?_
  intro p0 e s m args below meth c Q ls A hx hb hml hts hown hP hK hN hD hS hA hl hret hretV
  refine lv_iload hx hb dX2_takeBase_0 (lv_at hl 4 rfl) ?_
  refine lv_iload hx hb dX2_takeBase_2 (lv_at hl 5 rfl) ?_
  refine lv_iadd hx hb dX2_takeBase_4 ?_
  refine z_top (v := nI (pl + ct)) (nI_add pl ct) ?_
  refine lv_iload_n hx hb dX2_takeBase_5 rfl (lv_at hl 3 rfl) ?_
  refine z_icmp_gt (tgt := 27) hx hb dX2_takeBase_6 (by decide) (pl + ct) bl rfl rfl (by omega) (by omega) (fun c_6 => ?_) (fun c_6 => ?_)
  · -- 6 t
    refine lv_iconst (v := 0) hx hb dX2_takeBase_27 (by decide) ?_
    exact hret 28 ls _ _ (0, im, md) 0 _ dX2_takeBase_28 rfl rfl rfl (by first | (simp only [z_takeB, z_takeB2, if_pos c_6]; done) | rfl) hP hS
  · -- 6 f
    refine lv_aload_n hx hb dX2_takeBase_9 rfl (lv_at hl 0 rfl) ?_
    refine lv_aload_n hx hb dX2_takeBase_10 rfl (lv_at hl 1 rfl) ?_
    refine lv_iload_n hx hb dX2_takeBase_11 rfl (lv_at hl 2 rfl) ?_
    refine lv_iload hx hb dX2_takeBase_12 (lv_at hl 4 rfl) ?_
    refine lv_iadd hx hb dX2_takeBase_14 ?_
    refine z_top (v := nI (bs + pl)) (nI_add bs pl) ?_
    refine lv_iload hx hb dX2_takeBase_15 (lv_at hl 5 rfl) ?_
    refine zVW (ws' := fun u => wPF cI h q x y u.2.1 u.2.2 f p a st n k) (As := [.ref x, .int (nI (bs + pl)), .int (nI ct)]) (rest := []) ⟨hx, hb, hml, hown, hts⟩ (k_X2_take l D cI h q x y im md f p a st n k (bs + pl) ct (by omega) (by omega) (by omega)) (cwV 3 hts gX2_takeBase_X2_take rfl rfl rfl (by decide +kernel) ⟨Nat.le_of_ble_eq_true rfl, Nat.le_of_ble_eq_true rfl⟩) hP hK hN hD hS hA [0, 1, 2, 3] [] rfl (by decide) (fun _ => rfl) (fun _ => rfl) (fun _ => rfl) rfl (va_recv hK hP (ci := 2) (q0 := 0) rfl rfl) rfl hl.1 rfl (Nat.le_of_ble_eq_true rfl) dX2_takeBase_17 ⟨Nat.zero_le _, Nat.zero_le _⟩ (fun u_17 H locs hu_17 hP hD hS => ?_)
    obtain ⟨r_17, im_17, md_17⟩ := u_17
    have hP : va_P D vwCl (wPF cI h q x y im_17 md_17 f p a st n k) _ := hP
    have hD : va_D A (wPF cI h q x y im_17 md_17 f p a st n k) := hD
    refine W.eq (g2 := F0 m 20 ls [.int r_17]) rfl ?_
    refine lv_if_eq (tgt := 27) hx hb dX2_takeBase_20 (by decide) (fun c_20 => ?_) (fun c_20 => ?_)
    · -- 20 t
      refine lv_iconst (v := 0) hx hb dX2_takeBase_27 (by decide) ?_
      exact hret 28 ls _ _ (0, im_17, md_17) 0 _ dX2_takeBase_28 rfl rfl rfl (by first | (simp only [z_takeB, z_takeB2, ← hu_17, if_neg (Nat.not_lt_of_le c_6), if_pos c_20]; done) | rfl) hP hS
    · -- 20 f
      refine lv_iconst (v := 1) hx hb dX2_takeBase_23 (by decide) ?_
      refine lv_goto (tgt := 28) hx hb dX2_takeBase_24 (by decide) ?_
      exact hret 28 ls _ _ (1, im_17, md_17) 1 _ dX2_takeBase_28 rfl rfl rfl (by first | (simp only [z_takeB, z_takeB2, ← hu_17, if_neg (Nat.not_lt_of_le c_6), if_neg c_20]; done) | rfl) hP hS
abbrev rm_X2_unfold : Room := { frames := 3, cells := 0, slots := 0, locals := 70 }
set_option maxRecDepth 20000 in
theorem qX2_unfold_1 : (Cond.fieldLink RX2 15 "FlashBoot$Patch" "made" "I" : Cond) ∈ wsX2_unfold := List.mem_of_getElem? (i := 1) rfl
set_option maxRecDepth 20000 in
theorem iX2_unfold_X2 : ∀ w ∈ wsX20, w ∈ wsX2_unfold := by decide +kernel
set_option maxHeartbeats 4000000 in
set_option maxRecDepth 100000 in
theorem k_X2_unfold (l : Launch) (D : va_G) (cI : ClassId) (h q x y : Nat) (im : RW) (md : Nat) (f : RW) (p : Int32) (a : Int32) (st : Int32) (n : Int32) (k : Int32) (pn : Nat) (bs : Nat) (bl : Nat) (hpn : pn ≤ 255) (hbs : bs ≤ 300) (hbl : bl ≤ 255) (hB : zbOk f) : zMW (S := Int32 × RW × Nat) l D cI yX2_unfold wsX2_unfold rm_X2_unfold [.ref h, .ref x, .int (nI pn), .int (nI bs), .int (nI bl)] (wPF cI h q x y im md f p a st n k) (z_unf f pn bs bl im) (fun u => some (.int u.1)) (fun u => wPF cI h q x y u.2.1 u.2.2 f p a st n k) := by
  refine zEntW (cc := cX2_unfold) (maxL := 9) (ret := (some .boolean)) (own := RX2) (lvs := [(0, .ref h), (1, .ref x), (2, .int (nI pn)), (3, .int (nI bs)), (4, .int (nI bl))]) (by decide) rfl rfl (Nat.le_of_ble_eq_true rfl) rfl ?_
  intro p0 e s m args below meth c Q ls A hx hb hml hts hown hP hK hN hD hS hA hl hret hretV
  refine lv_aload_n hx hb dX2_unfold_0 rfl (lv_at hl 0 rfl) ?_
  refine lv_iconst (v := 0) hx hb dX2_unfold_1 (by decide) ?_
  refine va_put (D := D) (ci := 2) (v := .int 0) (ty := .int) (C := RX2) (T := TX2) (N := 2) hx hb hts iX2_unfold_X2 tyX2 tyX2_ok nmX2 hown hK hP hD hS 0 rfl rfl 1 (by decide) (hts _ qX2_unfold_1) (fun _ h9 => h9) rfl (by decide +kernel) rfl rfl (Nat.le_of_ble_eq_true rfl) dX2_unfold_2 (fun H locs hP hD hS => ?_)
  have hP : va_P D vwCl (wPF cI h q x y im 0 f p a st n k) _ := hP
  have hD : va_D A (wPF cI h q x y im 0 f p a st n k) := hD
  refine lv_iconst (v := 0) hx hb dX2_unfold_5 (by decide) ?_
  refine lv_istore (lv' := [(5, .int 0), (0, .ref h), (1, .ref x), (2, .int (nI pn)), (3, .int (nI bs)), (4, .int (nI bl))]) hx hb dX2_unfold_6 hl (by decide) rfl (fun ls hl => ?_)
  have lp_8 : ∀ (g_8 : Nat) (d : Nat) (i : Nat) (im9 : RW) (md9 : Nat) (H : Heap) (locs : List Loc) (ls : Array Slot), 1 ≤ d → pn + 1 ≤ i + d → i ≤ 600 → md9 ≤ 192 → z_unfN f pn bs bl d i (im9, md9) = z_unf f pn bs bl im → d < g_8 → va_P D vwCl (wPF cI h q x y im9 md9 f p a st n k) H → va_D A (wPF cI h q x y im9 md9 f p a st n k) → va_S A s.heap H locs → lv_has ls 9 [(0, .ref h), (1, .ref x), (2, .int (nI pn)), (3, .int (nI bs)), (4, .int (nI bl)), (5, .int (nI i))] → W p0 l e rm_X2_unfold s m args below meth c H locs 0 0 Q (F0 m 8 ls []) := by
    intro g_8
    induction g_8 with
    | zero => intro d i im9 md9 H locs ls h1 h2 h4 h3 hy h9_8; exact absurd h9_8 (Nat.not_lt_zero _)
    | succ g_8 ih_8 =>
      intro d i im9 md9 H locs ls h1 h2 h4 h3 hy h9_8 hP hD hS hl
      refine lv_iload hx hb dX2_unfold_8 (lv_at hl 5 rfl) ?_
      refine lv_iload_n hx hb dX2_unfold_10 rfl (lv_at hl 2 rfl) ?_
      refine z_icmp_ge (tgt := 125) hx hb dX2_unfold_11 (by decide) i pn rfl rfl (by omega) (by omega) (fun c_11 => ?_) (fun c_11 => ?_)
      · -- 11 t
        obtain ⟨d, rfl⟩ : ∃ d1, d = d1 + 1 := ⟨d - 1, by omega⟩
        refine lv_iconst (v := 1) hx hb dX2_unfold_125 (by decide) ?_
        exact hret 126 ls _ _ (1, im9, md9) 1 _ dX2_unfold_126 rfl rfl rfl (by rw [← hy, z_unfN, if_pos (by omega)]) hP hS
      · -- 11 f
        obtain ⟨d, rfl⟩ : ∃ d1, d = d1 + 1 := ⟨d - 1, by omega⟩
        have hb9 := (hB (448 + i) (by omega)).2
        refine lv_aload_n hx hb dX2_unfold_14 rfl (lv_at hl 1 rfl) ?_
        refine lv_sipush (v := 448) hx hb dX2_unfold_15 (by decide) ?_
        refine lv_iload hx hb dX2_unfold_18 (lv_at hl 5 rfl) ?_
        refine lv_iadd hx hb dX2_unfold_20 ?_
        refine z_top (v := nI (448 + i)) (nI_add 448 i) ?_
        refine zVR (As := [.int (nI (448 + i))]) (rest := []) ⟨hx, hb, hml, hown, hts⟩ (k_X0_at l D cI x y f p a st n k (nI (448 + i))) (cwV 1 hts gX2_unfold_X0_at rfl rfl rfl (by decide +kernel) ⟨Nat.le_of_ble_eq_true rfl, Nat.le_of_ble_eq_true rfl⟩) hP hK hN [2, 3] rfl (va_recv hK hP (ci := 0) (q0 := 2) rfl rfl) rfl hl.1 rfl (Nat.le_of_ble_eq_true rfl) dX2_unfold_21 ⟨Nat.zero_le _, Nat.zero_le _⟩ ?_
        refine z_top (v := nI (zb f (448 + i))) (z_atB hB (by omega)) ?_
        refine lv_istore (lv' := [(6, .int (nI (zb f (448 + i)))), (0, .ref h), (1, .ref x), (2, .int (nI pn)), (3, .int (nI bs)), (4, .int (nI bl)), (5, .int (nI i))]) hx hb dX2_unfold_24 hl (by decide) rfl (fun ls hl => ?_)
        refine lv_sipush (v := 448) hx hb dX2_unfold_26 (by decide) ?_
        refine lv_iload hx hb dX2_unfold_29 (lv_at hl 6 rfl) ?_
        refine lv_iadd hx hb dX2_unfold_31 ?_
        refine z_top (v := nI (448 + i)) (nI_add 448 i) ?_
        refine lv_iconst (v := 1) hx hb dX2_unfold_32 (by decide) ?_
        refine lv_iadd hx hb dX2_unfold_33 ?_
        refine z_top (v := nI ((448 + i) + 1)) (nI_add (448 + i) 1) ?_
        refine lv_istore (lv' := [(7, .int (nI ((448 + i) + 1))), (6, .int (nI (zb f (448 + i)))), (0, .ref h), (1, .ref x), (2, .int (nI pn)), (3, .int (nI bs)), (4, .int (nI bl)), (5, .int (nI i))]) hx hb dX2_unfold_34 hl (by decide) rfl (fun ls hl => ?_)
        refine lv_iload hx hb dX2_unfold_36 (lv_at hl 1 rfl) ?_
        refine lv_sipush (v := 128) hx hb dX2_unfold_38 (by decide) ?_
        refine z_icmp_ge (tgt := 82) hx hb dX2_unfold_41 (by decide) (zb f (448 + i)) 128 rfl rfl (by omega) (by omega) (fun c_41 => ?_) (fun c_41 => ?_)
        · -- 41 t
          refine lv_iload hx hb dX2_unfold_82 (lv_at hl 1 rfl) ?_
          refine lv_sipush (v := 128) hx hb dX2_unfold_84 (by decide) ?_
          refine lv_isub hx hb dX2_unfold_87 ?_
          refine z_top (v := nI (zb f (448 + i) - 128)) (z_sub1 (a := zb f (448 + i)) (b := 128) (by omega)) ?_
          refine lv_iconst (v := 1) hx hb dX2_unfold_88 (by decide) ?_
          refine lv_iadd hx hb dX2_unfold_89 ?_
          refine z_top (v := nI ((zb f (448 + i) - 128) + 1)) (nI_add (zb f (448 + i) - 128) 1) ?_
          refine lv_istore (lv' := [(8, .int (nI ((zb f (448 + i) - 128) + 1))), (7, .int (nI ((448 + i) + 1))), (6, .int (nI (zb f (448 + i)))), (0, .ref h), (1, .ref x), (2, .int (nI pn)), (3, .int (nI bs)), (4, .int (nI bl)), (5, .int (nI i))]) hx hb dX2_unfold_90 hl (by decide) rfl (fun ls hl => ?_)
          refine lv_iinc (v := (nI (i + 2))) (lv' := [(5, .int (nI (i + 2))), (8, .int (nI ((zb f (448 + i) - 128) + 1))), (7, .int (nI ((448 + i) + 1))), (6, .int (nI (zb f (448 + i)))), (0, .ref h), (1, .ref x), (2, .int (nI pn)), (3, .int (nI bs)), (4, .int (nI bl))]) hx hb dX2_unfold_92 hl (k := 8) rfl (z_inc _ _ rfl) (by decide) rfl (fun ls hl => ?_)
          refine lv_iload hx hb dX2_unfold_95 (lv_at hl 0 rfl) ?_
          refine lv_iload_n hx hb dX2_unfold_97 rfl (lv_at hl 6 rfl) ?_
          refine z_icmp_gt (tgt := 120) hx hb dX2_unfold_98 (by decide) (i + 2) pn rfl rfl (by omega) (by omega) (fun c_98 => ?_) (fun c_98 => ?_)
          · -- 98 t
            refine lv_iconst (v := 0) hx hb dX2_unfold_120 (by decide) ?_
            exact hret 121 ls _ _ (0, im9, md9) 0 _ dX2_unfold_121 rfl rfl rfl (by rw [← hy, z_unfN, if_neg (by omega), if_neg (by omega), if_pos c_98]) hP hS
          · -- 98 f
            have hb8 := (hB (448 + i + 1) (by omega)).2
            refine lv_aload_n hx hb dX2_unfold_101 rfl (lv_at hl 4 rfl) ?_
            refine lv_aload_n hx hb dX2_unfold_102 rfl (lv_at hl 5 rfl) ?_
            refine lv_iload_n hx hb dX2_unfold_103 rfl (lv_at hl 7 rfl) ?_
            refine lv_iload hx hb dX2_unfold_104 (lv_at hl 8 rfl) ?_
            refine lv_aload_n hx hb dX2_unfold_106 rfl (lv_at hl 5 rfl) ?_
            refine lv_iload hx hb dX2_unfold_107 (lv_at hl 2 rfl) ?_
            refine zVR (As := [.int (nI ((448 + i) + 1))]) (rest := [.int (nI bl), .int (nI bs), .ref x, .ref h]) ⟨hx, hb, hml, hown, hts⟩ (k_X0_at l D cI x y f p a st n k (nI ((448 + i) + 1))) (cwV 1 hts gX2_unfold_X0_at rfl rfl rfl (by decide +kernel) ⟨Nat.le_of_ble_eq_true rfl, Nat.le_of_ble_eq_true rfl⟩) hP hK hN [2, 3] rfl (va_recv hK hP (ci := 0) (q0 := 2) rfl rfl) rfl hl.1 rfl (Nat.le_of_ble_eq_true rfl) dX2_unfold_109 ⟨Nat.zero_le _, Nat.zero_le _⟩ ?_
            refine z_top (v := nI (zb f (448 + i + 1))) (z_atB hB (by omega)) ?_
            refine lv_iload hx hb dX2_unfold_112 (lv_at hl 1 rfl) ?_
            refine zVW (ws' := fun u => wPF cI h q x y u.2.1 u.2.2 f p a st n k) (As := [.ref x, .int (nI bs), .int (nI bl), .int (nI (zb f (448 + i + 1))), .int (nI ((zb f (448 + i) - 128) + 1))]) (rest := []) ⟨hx, hb, hml, hown, hts⟩ (k_X2_takeBase l D cI h q x y im9 md9 f p a st n k bs bl (zb f (448 + i + 1)) ((zb f (448 + i) - 128) + 1) (by omega) (by omega) (by omega) (by omega) (by omega)) (cwV 5 hts gX2_unfold_X2_takeBase rfl rfl rfl (by decide +kernel) ⟨Nat.le_of_ble_eq_true rfl, Nat.le_of_ble_eq_true rfl⟩) hP hK hN hD hS hA [0, 1, 2, 3] [] rfl (by decide) (fun _ => rfl) (fun _ => rfl) (fun _ => rfl) rfl (va_recv hK hP (ci := 2) (q0 := 0) rfl rfl) rfl hl.1 rfl (Nat.le_of_ble_eq_true rfl) dX2_unfold_114 ⟨Nat.zero_le _, Nat.zero_le _⟩ (fun u_114 H locs hu_114 hP hD hS => ?_)
            obtain ⟨r_114, im_114, md_114⟩ := u_114
            have hP : va_P D vwCl (wPF cI h q x y im_114 md_114 f p a st n k) _ := hP
            have hD : va_D A (wPF cI h q x y im_114 md_114 f p a st n k) := hD
            refine W.eq (g2 := F0 m 117 ls [.int r_114]) rfl ?_
            refine lv_if_ne (tgt := 122) hx hb dX2_unfold_117 (by decide) (fun c_117 => ?_) (fun c_117 => ?_)
            · -- 117 t
              refine lv_goto (tgt := 8) hx hb dX2_unfold_122 (by decide) ?_
              exact ih_8 d (i + 2) im_114 md_114 _ _ _ (by omega) (by omega) (by omega) (z_takeB_le hu_114 (by omega)) (by rw [← hy, z_unfN, if_neg (by omega), if_neg (by omega), if_neg (Nat.not_lt_of_le c_98), ← hu_114]; simp only [if_neg c_117]) (by omega) hP hD hS (lv_sub hl [4, 5, 6, 7, 8, 0] rfl)
            · -- 117 f
              refine lv_iconst (v := 0) hx hb dX2_unfold_120 (by decide) ?_
              exact hret 121 ls _ _ (0, im_114, md_114) 0 _ dX2_unfold_121 rfl rfl rfl (by rw [← hy, z_unfN, if_neg (by omega), if_neg (by omega), if_neg (Nat.not_lt_of_le c_98), ← hu_114]; simp only [if_pos c_117]) hP hS
        · -- 41 f
          refine lv_iload hx hb dX2_unfold_44 (lv_at hl 1 rfl) ?_
          refine lv_iconst (v := 1) hx hb dX2_unfold_46 (by decide) ?_
          refine lv_iadd hx hb dX2_unfold_47 ?_
          refine z_top (v := nI ((zb f (448 + i)) + 1)) (nI_add (zb f (448 + i)) 1) ?_
          refine lv_istore (lv' := [(8, .int (nI ((zb f (448 + i)) + 1))), (7, .int (nI ((448 + i) + 1))), (6, .int (nI (zb f (448 + i)))), (0, .ref h), (1, .ref x), (2, .int (nI pn)), (3, .int (nI bs)), (4, .int (nI bl)), (5, .int (nI i))]) hx hb dX2_unfold_48 hl (by decide) rfl (fun ls hl => ?_)
          refine lv_iload hx hb dX2_unfold_50 (lv_at hl 8 rfl) ?_
          refine lv_iconst (v := 1) hx hb dX2_unfold_52 (by decide) ?_
          refine lv_iload hx hb dX2_unfold_53 (lv_at hl 0 rfl) ?_
          refine lv_iadd hx hb dX2_unfold_55 ?_
          refine z_top (v := nI (1 + ((zb f (448 + i)) + 1))) (nI_add 1 ((zb f (448 + i)) + 1)) ?_
          refine lv_iadd hx hb dX2_unfold_56 ?_
          refine z_top (v := nI (i + (1 + ((zb f (448 + i)) + 1)))) (nI_add i (1 + ((zb f (448 + i)) + 1))) ?_
          refine lv_istore (lv' := [(5, .int (nI (i + (1 + ((zb f (448 + i)) + 1))))), (8, .int (nI ((zb f (448 + i)) + 1))), (7, .int (nI ((448 + i) + 1))), (6, .int (nI (zb f (448 + i)))), (0, .ref h), (1, .ref x), (2, .int (nI pn)), (3, .int (nI bs)), (4, .int (nI bl))]) hx hb dX2_unfold_57 hl (by decide) rfl (fun ls hl => ?_)
          refine lv_iload hx hb dX2_unfold_59 (lv_at hl 0 rfl) ?_
          refine lv_iload_n hx hb dX2_unfold_61 rfl (lv_at hl 6 rfl) ?_
          refine z_icmp_gt (tgt := 77) hx hb dX2_unfold_62 (by decide) (i + (1 + ((zb f (448 + i)) + 1))) pn rfl rfl (by omega) (by omega) (fun c_62 => ?_) (fun c_62 => ?_)
          · -- 62 t
            refine lv_iconst (v := 0) hx hb dX2_unfold_77 (by decide) ?_
            exact hret 78 ls _ _ (0, im9, md9) 0 _ dX2_unfold_78 rfl rfl rfl (by rw [← hy, z_unfN, if_neg (by omega), if_pos (by omega), if_pos c_62]) hP hS
          · -- 62 f
            refine lv_aload_n hx hb dX2_unfold_65 rfl (lv_at hl 4 rfl) ?_
            refine lv_aload_n hx hb dX2_unfold_66 rfl (lv_at hl 5 rfl) ?_
            refine lv_iload hx hb dX2_unfold_67 (lv_at hl 2 rfl) ?_
            refine lv_iload hx hb dX2_unfold_69 (lv_at hl 1 rfl) ?_
            refine zVW (ws' := fun u => wPF cI h q x y u.2.1 u.2.2 f p a st n k) (As := [.ref x, .int (nI ((448 + i) + 1)), .int (nI ((zb f (448 + i)) + 1))]) (rest := []) ⟨hx, hb, hml, hown, hts⟩ (k_X2_take l D cI h q x y im9 md9 f p a st n k ((448 + i) + 1) ((zb f (448 + i)) + 1) (by omega) (by omega) (by omega)) (cwV 3 hts gX2_unfold_X2_take rfl rfl rfl (by decide +kernel) ⟨Nat.le_of_ble_eq_true rfl, Nat.le_of_ble_eq_true rfl⟩) hP hK hN hD hS hA [0, 1, 2, 3] [] rfl (by decide) (fun _ => rfl) (fun _ => rfl) (fun _ => rfl) rfl (va_recv hK hP (ci := 2) (q0 := 0) rfl rfl) rfl hl.1 rfl (Nat.le_of_ble_eq_true rfl) dX2_unfold_71 ⟨Nat.zero_le _, Nat.zero_le _⟩ (fun u_71 H locs hu_71 hP hD hS => ?_)
            obtain ⟨r_71, im_71, md_71⟩ := u_71
            have hP : va_P D vwCl (wPF cI h q x y im_71 md_71 f p a st n k) _ := hP
            have hD : va_D A (wPF cI h q x y im_71 md_71 f p a st n k) := hD
            refine W.eq (g2 := F0 m 74 ls [.int r_71]) rfl ?_
            refine lv_if_ne (tgt := 79) hx hb dX2_unfold_74 (by decide) (fun c_74 => ?_) (fun c_74 => ?_)
            · -- 74 t
              refine lv_goto (tgt := 122) hx hb dX2_unfold_79 (by decide) ?_
              refine lv_goto (tgt := 8) hx hb dX2_unfold_122 (by decide) ?_
              exact ih_8 d (i + (1 + ((zb f (448 + i)) + 1))) im_71 md_71 _ _ _ (by omega) (by omega) (by omega) (z_take_le hu_71 (by omega)) (by rw [← hy, z_unfN, if_neg (by omega), if_pos (by omega), if_neg (Nat.not_lt_of_le c_62), ← hu_71]; simp only [if_neg c_74]) (by omega) hP hD hS (lv_sub hl [4, 5, 6, 7, 8, 0] rfl)
            · -- 74 f
              refine lv_iconst (v := 0) hx hb dX2_unfold_77 (by decide) ?_
              exact hret 78 ls _ _ (0, im_71, md_71) 0 _ dX2_unfold_78 rfl rfl rfl (by rw [← hy, z_unfN, if_neg (by omega), if_pos (by omega), if_neg (Nat.not_lt_of_le c_62), ← hu_71]; simp only [if_pos c_74]) hP hS
  exact lp_8 _ (pn + 1) 0 im 0 _ _ _ (by omega) (by omega) (by omega) (by omega) rfl (Nat.lt_succ_self _) hP hD hS (lv_sub hl [1, 2, 3, 4, 5, 0] rfl)
end
