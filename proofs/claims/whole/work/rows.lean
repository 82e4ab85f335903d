section
-- ===== PART A: goes FIRST, ahead of the names: the tables' words, and 'selects' of the private methods out of them =====
/-- a private method of a class that the tables say can be made, by its rows of tables_1 -/
def lw_okq (q : MethodName × Nat) : Prop := (q.1.cls ≠ "java/lang/invoke/MethodHandle" ∧ q.1.cls ≠ "java/lang/invoke/VarHandle") ∧ Cond.instantiable q.1.cls q.2 ∈ tables_1 ∧ Cond.privateMethod q.1 ∈ tables_1 ∧ Cond.instanceMethod q.1 ∈ tables_1
theorem lw_p0 : lw_okq (⟨"SteppedCache$Writer", "lookUpKey", "()V"⟩, 13) := ⟨⟨by decide +kernel, by decide +kernel⟩, List.mem_of_getElem? (i := 133) (by decide +kernel), List.mem_of_getElem? (i := 288) (by decide +kernel), List.mem_of_getElem? (i := 289) (by decide +kernel)⟩
theorem lw_p1 : lw_okq (⟨"SteppedCache$Writer", "chooseWhenFound", "(I)V"⟩, 13) := ⟨⟨by decide +kernel, by decide +kernel⟩, List.mem_of_getElem? (i := 133) (by decide +kernel), List.mem_of_getElem? (i := 337) (by decide +kernel), List.mem_of_getElem? (i := 338) (by decide +kernel)⟩
theorem lw_p2 : lw_okq (⟨"SteppedCache$Writer", "chooseWhenNotFound", "()V"⟩, 13) := ⟨⟨by decide +kernel, by decide +kernel⟩, List.mem_of_getElem? (i := 133) (by decide +kernel), List.mem_of_getElem? (i := 341) (by decide +kernel), List.mem_of_getElem? (i := 342) (by decide +kernel)⟩
theorem lw_p3 : lw_okq (⟨"SteppedCache$Writer", "changeValue", "()V"⟩, 13) := ⟨⟨by decide +kernel, by decide +kernel⟩, List.mem_of_getElem? (i := 133) (by decide +kernel), List.mem_of_getElem? (i := 349) (by decide +kernel), List.mem_of_getElem? (i := 350) (by decide +kernel)⟩
theorem lw_p4 : lw_okq (⟨"SteppedCache$Writer", "changeToken", "()V"⟩, 13) := ⟨⟨by decide +kernel, by decide +kernel⟩, List.mem_of_getElem? (i := 133) (by decide +kernel), List.mem_of_getElem? (i := 354) (by decide +kernel), List.mem_of_getElem? (i := 355) (by decide +kernel)⟩
theorem lw_p5 : lw_okq (⟨"SteppedCache$Writer", "evict", "()V"⟩, 13) := ⟨⟨by decide +kernel, by decide +kernel⟩, List.mem_of_getElem? (i := 133) (by decide +kernel), List.mem_of_getElem? (i := 362) (by decide +kernel), List.mem_of_getElem? (i := 363) (by decide +kernel)⟩
theorem lw_p6 : lw_okq (⟨"SteppedCache$Writer", "turnHand", "()V"⟩, 13) := ⟨⟨by decide +kernel, by decide +kernel⟩, List.mem_of_getElem? (i := 133) (by decide +kernel), List.mem_of_getElem? (i := 366) (by decide +kernel), List.mem_of_getElem? (i := 367) (by decide +kernel)⟩
theorem lw_p7 : lw_okq (⟨"SteppedCache$Writer", "seekPath", "()V"⟩, 13) := ⟨⟨by decide +kernel, by decide +kernel⟩, List.mem_of_getElem? (i := 133) (by decide +kernel), List.mem_of_getElem? (i := 370) (by decide +kernel), List.mem_of_getElem? (i := 371) (by decide +kernel)⟩
theorem lw_p8 : lw_okq (⟨"SteppedCache$Path", "enter", "(III)V"⟩, 7) := ⟨⟨by decide +kernel, by decide +kernel⟩, List.mem_of_getElem? (i := 139) (by decide +kernel), List.mem_of_getElem? (i := 380) (by decide +kernel), List.mem_of_getElem? (i := 381) (by decide +kernel)⟩
theorem lw_p9 : lw_okq (⟨"SteppedCache$Path", "keep", "(I)V"⟩, 7) := ⟨⟨by decide +kernel, by decide +kernel⟩, List.mem_of_getElem? (i := 139) (by decide +kernel), List.mem_of_getElem? (i := 385) (by decide +kernel), List.mem_of_getElem? (i := 386) (by decide +kernel)⟩
theorem lw_p10 : lw_okq (⟨"SteppedCache$Writer", "chooseMove", "()V"⟩, 13) := ⟨⟨by decide +kernel, by decide +kernel⟩, List.mem_of_getElem? (i := 133) (by decide +kernel), List.mem_of_getElem? (i := 390) (by decide +kernel), List.mem_of_getElem? (i := 391) (by decide +kernel)⟩
theorem lw_p11 : lw_okq (⟨"SteppedCache$Writer", "moveOn", "()V"⟩, 13) := ⟨⟨by decide +kernel, by decide +kernel⟩, List.mem_of_getElem? (i := 133) (by decide +kernel), List.mem_of_getElem? (i := 394) (by decide +kernel), List.mem_of_getElem? (i := 395) (by decide +kernel)⟩
theorem lw_p12 : lw_okq (⟨"SteppedCache$Writer", "moveOff", "()V"⟩, 13) := ⟨⟨by decide +kernel, by decide +kernel⟩, List.mem_of_getElem? (i := 133) (by decide +kernel), List.mem_of_getElem? (i := 398) (by decide +kernel), List.mem_of_getElem? (i := 399) (by decide +kernel)⟩
theorem lw_p13 : lw_okq (⟨"SteppedCache$Writer", "insertKey", "()V"⟩, 13) := ⟨⟨by decide +kernel, by decide +kernel⟩, List.mem_of_getElem? (i := 133) (by decide +kernel), List.mem_of_getElem? (i := 402) (by decide +kernel), List.mem_of_getElem? (i := 403) (by decide +kernel)⟩
theorem lw_p14 : lw_okq (⟨"SteppedCache$Reader", "keepVersion", "()V"⟩, 11) := ⟨⟨by decide +kernel, by decide +kernel⟩, List.mem_of_getElem? (i := 212) (by decide +kernel), List.mem_of_getElem? (i := 443) (by decide +kernel), List.mem_of_getElem? (i := 444) (by decide +kernel)⟩
theorem lw_p15 : lw_okq (⟨"SteppedCache$Reader", "lookInto", "(II)V"⟩, 11) := ⟨⟨by decide +kernel, by decide +kernel⟩, List.mem_of_getElem? (i := 212) (by decide +kernel), List.mem_of_getElem? (i := 452) (by decide +kernel), List.mem_of_getElem? (i := 453) (by decide +kernel)⟩
def lw_privs_1 : List (MethodName × Nat) := [(⟨"SteppedCache$Writer", "lookUpKey", "()V"⟩, 13), (⟨"SteppedCache$Writer", "chooseWhenFound", "(I)V"⟩, 13), (⟨"SteppedCache$Writer", "chooseWhenNotFound", "()V"⟩, 13), (⟨"SteppedCache$Writer", "changeValue", "()V"⟩, 13), (⟨"SteppedCache$Writer", "changeToken", "()V"⟩, 13), (⟨"SteppedCache$Writer", "evict", "()V"⟩, 13), (⟨"SteppedCache$Writer", "turnHand", "()V"⟩, 13), (⟨"SteppedCache$Writer", "seekPath", "()V"⟩, 13), (⟨"SteppedCache$Path", "enter", "(III)V"⟩, 7), (⟨"SteppedCache$Path", "keep", "(I)V"⟩, 7), (⟨"SteppedCache$Writer", "chooseMove", "()V"⟩, 13), (⟨"SteppedCache$Writer", "moveOn", "()V"⟩, 13), (⟨"SteppedCache$Writer", "moveOff", "()V"⟩, 13), (⟨"SteppedCache$Writer", "insertKey", "()V"⟩, 13), (⟨"SteppedCache$Reader", "keepVersion", "()V"⟩, 11), (⟨"SteppedCache$Reader", "lookInto", "(II)V"⟩, 11)]
theorem lw_r1 : ∀ q ∈ lw_privs_1, lw_okq q := List.forall_mem_cons.mpr ⟨lw_p0, List.forall_mem_cons.mpr ⟨lw_p1, List.forall_mem_cons.mpr ⟨lw_p2, List.forall_mem_cons.mpr ⟨lw_p3, List.forall_mem_cons.mpr ⟨lw_p4, List.forall_mem_cons.mpr ⟨lw_p5, List.forall_mem_cons.mpr ⟨lw_p6, List.forall_mem_cons.mpr ⟨lw_p7, List.forall_mem_cons.mpr ⟨lw_p8, List.forall_mem_cons.mpr ⟨lw_p9, List.forall_mem_cons.mpr ⟨lw_p10, List.forall_mem_cons.mpr ⟨lw_p11, List.forall_mem_cons.mpr ⟨lw_p12, List.forall_mem_cons.mpr ⟨lw_p13, List.forall_mem_cons.mpr ⟨lw_p14, List.forall_mem_cons.mpr ⟨lw_p15, fun _ h => absurd h List.not_mem_nil⟩⟩⟩⟩⟩⟩⟩⟩⟩⟩⟩⟩⟩⟩⟩⟩
theorem lw_p16 : lw_okq (⟨"SteppedCache$Reader", "copyItem", "()V"⟩, 11) := ⟨⟨by decide +kernel, by decide +kernel⟩, List.mem_of_getElem? (i := 212) (by decide +kernel), List.mem_of_getElem? (i := 458) (by decide +kernel), List.mem_of_getElem? (i := 459) (by decide +kernel)⟩
theorem lw_p17 : lw_okq (⟨"SteppedCache$Reader", "checkVersion", "()V"⟩, 11) := ⟨⟨by decide +kernel, by decide +kernel⟩, List.mem_of_getElem? (i := 212) (by decide +kernel), List.mem_of_getElem? (i := 462) (by decide +kernel), List.mem_of_getElem? (i := 463) (by decide +kernel)⟩
theorem lw_p18 : lw_okq (⟨"SteppedCache$Reader", "end", "(Z)V"⟩, 11) := ⟨⟨by decide +kernel, by decide +kernel⟩, List.mem_of_getElem? (i := 212) (by decide +kernel), List.mem_of_getElem? (i := 467) (by decide +kernel), List.mem_of_getElem? (i := 468) (by decide +kernel)⟩
theorem lw_p19 : lw_okq (⟨"SteppedCache$Reader", "readLocked", "()V"⟩, 11) := ⟨⟨by decide +kernel, by decide +kernel⟩, List.mem_of_getElem? (i := 212) (by decide +kernel), List.mem_of_getElem? (i := 471) (by decide +kernel), List.mem_of_getElem? (i := 472) (by decide +kernel)⟩
theorem lw_p20 : lw_okq (⟨"SteppedCache", "isHit", "(I)Z"⟩, 4) := ⟨⟨by decide +kernel, by decide +kernel⟩, List.mem_of_getElem? (i := 10) (by decide +kernel), List.mem_of_getElem? (i := 485) (by decide +kernel), List.mem_of_getElem? (i := 486) (by decide +kernel)⟩
theorem lw_p21 : lw_okq (⟨"SteppedCache", "isUsedItem", "(I)Z"⟩, 4) := ⟨⟨by decide +kernel, by decide +kernel⟩, List.mem_of_getElem? (i := 10) (by decide +kernel), List.mem_of_getElem? (i := 513) (by decide +kernel), List.mem_of_getElem? (i := 514) (by decide +kernel)⟩
theorem lw_p22 : lw_okq (⟨"SteppedCacheModel", "search", "(II)I"⟩, 38) := ⟨⟨by decide +kernel, by decide +kernel⟩, List.mem_of_getElem? (i := 538) (by decide +kernel), List.mem_of_getElem? (i := 680) (by decide +kernel), List.mem_of_getElem? (i := 681) (by decide +kernel)⟩
theorem lw_p23 : lw_okq (⟨"SteppedCacheModel", "one", "()V"⟩, 38) := ⟨⟨by decide +kernel, by decide +kernel⟩, List.mem_of_getElem? (i := 538) (by decide +kernel), List.mem_of_getElem? (i := 692) (by decide +kernel), List.mem_of_getElem? (i := 693) (by decide +kernel)⟩
theorem lw_p24 : lw_okq (⟨"SteppedCacheModel", "begin", "()V"⟩, 38) := ⟨⟨by decide +kernel, by decide +kernel⟩, List.mem_of_getElem? (i := 538) (by decide +kernel), List.mem_of_getElem? (i := 696) (by decide +kernel), List.mem_of_getElem? (i := 697) (by decide +kernel)⟩
theorem lw_p25 : lw_okq (⟨"SteppedCacheModel", "lookBoth", "(I)I"⟩, 38) := ⟨⟨by decide +kernel, by decide +kernel⟩, List.mem_of_getElem? (i := 538) (by decide +kernel), List.mem_of_getElem? (i := 700) (by decide +kernel), List.mem_of_getElem? (i := 701) (by decide +kernel)⟩
theorem lw_p26 : lw_okq (⟨"SteppedCacheModel", "look", "(II)I"⟩, 38) := ⟨⟨by decide +kernel, by decide +kernel⟩, List.mem_of_getElem? (i := 538) (by decide +kernel), List.mem_of_getElem? (i := 704) (by decide +kernel), List.mem_of_getElem? (i := 705) (by decide +kernel)⟩
theorem lw_p27 : lw_okq (⟨"SteppedCacheModel", "over", "(I)Z"⟩, 38) := ⟨⟨by decide +kernel, by decide +kernel⟩, List.mem_of_getElem? (i := 538) (by decide +kernel), List.mem_of_getElem? (i := 708) (by decide +kernel), List.mem_of_getElem? (i := 709) (by decide +kernel)⟩
theorem lw_p28 : lw_okq (⟨"SteppedCacheModel", "remove", "(I)V"⟩, 38) := ⟨⟨by decide +kernel, by decide +kernel⟩, List.mem_of_getElem? (i := 538) (by decide +kernel), List.mem_of_getElem? (i := 712) (by decide +kernel), List.mem_of_getElem? (i := 713) (by decide +kernel)⟩
theorem lw_p29 : lw_okq (⟨"SteppedCacheModel", "finish", "(I)V"⟩, 38) := ⟨⟨by decide +kernel, by decide +kernel⟩, List.mem_of_getElem? (i := 538) (by decide +kernel), List.mem_of_getElem? (i := 716) (by decide +kernel), List.mem_of_getElem? (i := 717) (by decide +kernel)⟩
theorem lw_p30 : lw_okq (⟨"SteppedCacheModel", "many", "()I"⟩, 38) := ⟨⟨by decide +kernel, by decide +kernel⟩, List.mem_of_getElem? (i := 538) (by decide +kernel), List.mem_of_getElem? (i := 720) (by decide +kernel), List.mem_of_getElem? (i := 721) (by decide +kernel)⟩
theorem lw_p31 : lw_okq (⟨"SteppedCacheModel", "stamp", "(I)V"⟩, 38) := ⟨⟨by decide +kernel, by decide +kernel⟩, List.mem_of_getElem? (i := 538) (by decide +kernel), List.mem_of_getElem? (i := 724) (by decide +kernel), List.mem_of_getElem? (i := 725) (by decide +kernel)⟩
def lw_privs_2 : List (MethodName × Nat) := [(⟨"SteppedCache$Reader", "copyItem", "()V"⟩, 11), (⟨"SteppedCache$Reader", "checkVersion", "()V"⟩, 11), (⟨"SteppedCache$Reader", "end", "(Z)V"⟩, 11), (⟨"SteppedCache$Reader", "readLocked", "()V"⟩, 11), (⟨"SteppedCache", "isHit", "(I)Z"⟩, 4), (⟨"SteppedCache", "isUsedItem", "(I)Z"⟩, 4), (⟨"SteppedCacheModel", "search", "(II)I"⟩, 38), (⟨"SteppedCacheModel", "one", "()V"⟩, 38), (⟨"SteppedCacheModel", "begin", "()V"⟩, 38), (⟨"SteppedCacheModel", "lookBoth", "(I)I"⟩, 38), (⟨"SteppedCacheModel", "look", "(II)I"⟩, 38), (⟨"SteppedCacheModel", "over", "(I)Z"⟩, 38), (⟨"SteppedCacheModel", "remove", "(I)V"⟩, 38), (⟨"SteppedCacheModel", "finish", "(I)V"⟩, 38), (⟨"SteppedCacheModel", "many", "()I"⟩, 38), (⟨"SteppedCacheModel", "stamp", "(I)V"⟩, 38)]
theorem lw_r2 : ∀ q ∈ lw_privs_2, lw_okq q := List.forall_mem_cons.mpr ⟨lw_p16, List.forall_mem_cons.mpr ⟨lw_p17, List.forall_mem_cons.mpr ⟨lw_p18, List.forall_mem_cons.mpr ⟨lw_p19, List.forall_mem_cons.mpr ⟨lw_p20, List.forall_mem_cons.mpr ⟨lw_p21, List.forall_mem_cons.mpr ⟨lw_p22, List.forall_mem_cons.mpr ⟨lw_p23, List.forall_mem_cons.mpr ⟨lw_p24, List.forall_mem_cons.mpr ⟨lw_p25, List.forall_mem_cons.mpr ⟨lw_p26, List.forall_mem_cons.mpr ⟨lw_p27, List.forall_mem_cons.mpr ⟨lw_p28, List.forall_mem_cons.mpr ⟨lw_p29, List.forall_mem_cons.mpr ⟨lw_p30, List.forall_mem_cons.mpr ⟨lw_p31, fun _ h => absurd h List.not_mem_nil⟩⟩⟩⟩⟩⟩⟩⟩⟩⟩⟩⟩⟩⟩⟩⟩
theorem lw_p32 : lw_okq (⟨"SteppedCacheModel", "evict", "()V"⟩, 38) := ⟨⟨by decide +kernel, by decide +kernel⟩, List.mem_of_getElem? (i := 538) (by decide +kernel), List.mem_of_getElem? (i := 728) (by decide +kernel), List.mem_of_getElem? (i := 729) (by decide +kernel)⟩
theorem lw_p33 : lw_okq (⟨"SteppedCacheModel", "seek", "()V"⟩, 38) := ⟨⟨by decide +kernel, by decide +kernel⟩, List.mem_of_getElem? (i := 538) (by decide +kernel), List.mem_of_getElem? (i := 732) (by decide +kernel), List.mem_of_getElem? (i := 733) (by decide +kernel)⟩
theorem lw_p34 : lw_okq (⟨"SteppedCacheModel", "leads", "(II)Z"⟩, 38) := ⟨⟨by decide +kernel, by decide +kernel⟩, List.mem_of_getElem? (i := 538) (by decide +kernel), List.mem_of_getElem? (i := 736) (by decide +kernel), List.mem_of_getElem? (i := 737) (by decide +kernel)⟩
theorem lw_p35 : lw_okq (⟨"SteppedCacheModel", "move", "()V"⟩, 38) := ⟨⟨by decide +kernel, by decide +kernel⟩, List.mem_of_getElem? (i := 538) (by decide +kernel), List.mem_of_getElem? (i := 740) (by decide +kernel), List.mem_of_getElem? (i := 741) (by decide +kernel)⟩
theorem lw_p36 : lw_okq (⟨"SteppedCacheModel", "enter", "()V"⟩, 38) := ⟨⟨by decide +kernel, by decide +kernel⟩, List.mem_of_getElem? (i := 538) (by decide +kernel), List.mem_of_getElem? (i := 744) (by decide +kernel), List.mem_of_getElem? (i := 745) (by decide +kernel)⟩
theorem lw_p37 : lw_okq (⟨"SteppedCacheModel", "reading", "(I)Z"⟩, 38) := ⟨⟨by decide +kernel, by decide +kernel⟩, List.mem_of_getElem? (i := 538) (by decide +kernel), List.mem_of_getElem? (i := 759) (by decide +kernel), List.mem_of_getElem? (i := 760) (by decide +kernel)⟩
theorem lw_p38 : lw_okq (⟨"SteppedCacheModel", "keep", "(II)V"⟩, 38) := ⟨⟨by decide +kernel, by decide +kernel⟩, List.mem_of_getElem? (i := 538) (by decide +kernel), List.mem_of_getElem? (i := 767) (by decide +kernel), List.mem_of_getElem? (i := 768) (by decide +kernel)⟩
theorem lw_p39 : lw_okq (⟨"SteppedCacheModel", "find", "(II)V"⟩, 38) := ⟨⟨by decide +kernel, by decide +kernel⟩, List.mem_of_getElem? (i := 538) (by decide +kernel), List.mem_of_getElem? (i := 771) (by decide +kernel), List.mem_of_getElem? (i := 772) (by decide +kernel)⟩
theorem lw_p40 : lw_okq (⟨"SteppedCacheModel", "copy", "(I)V"⟩, 38) := ⟨⟨by decide +kernel, by decide +kernel⟩, List.mem_of_getElem? (i := 538) (by decide +kernel), List.mem_of_getElem? (i := 775) (by decide +kernel), List.mem_of_getElem? (i := 776) (by decide +kernel)⟩
theorem lw_p41 : lw_okq (⟨"SteppedCacheModel", "check", "(I)V"⟩, 38) := ⟨⟨by decide +kernel, by decide +kernel⟩, List.mem_of_getElem? (i := 538) (by decide +kernel), List.mem_of_getElem? (i := 779) (by decide +kernel), List.mem_of_getElem? (i := 780) (by decide +kernel)⟩
theorem lw_p42 : lw_okq (⟨"SteppedCacheModel", "locked", "(I)V"⟩, 38) := ⟨⟨by decide +kernel, by decide +kernel⟩, List.mem_of_getElem? (i := 538) (by decide +kernel), List.mem_of_getElem? (i := 783) (by decide +kernel), List.mem_of_getElem? (i := 784) (by decide +kernel)⟩
def lw_privs_3 : List (MethodName × Nat) := [(⟨"SteppedCacheModel", "evict", "()V"⟩, 38), (⟨"SteppedCacheModel", "seek", "()V"⟩, 38), (⟨"SteppedCacheModel", "leads", "(II)Z"⟩, 38), (⟨"SteppedCacheModel", "move", "()V"⟩, 38), (⟨"SteppedCacheModel", "enter", "()V"⟩, 38), (⟨"SteppedCacheModel", "reading", "(I)Z"⟩, 38), (⟨"SteppedCacheModel", "keep", "(II)V"⟩, 38), (⟨"SteppedCacheModel", "find", "(II)V"⟩, 38), (⟨"SteppedCacheModel", "copy", "(I)V"⟩, 38), (⟨"SteppedCacheModel", "check", "(I)V"⟩, 38), (⟨"SteppedCacheModel", "locked", "(I)V"⟩, 38)]
theorem lw_r3 : ∀ q ∈ lw_privs_3, lw_okq q := List.forall_mem_cons.mpr ⟨lw_p32, List.forall_mem_cons.mpr ⟨lw_p33, List.forall_mem_cons.mpr ⟨lw_p34, List.forall_mem_cons.mpr ⟨lw_p35, List.forall_mem_cons.mpr ⟨lw_p36, List.forall_mem_cons.mpr ⟨lw_p37, List.forall_mem_cons.mpr ⟨lw_p38, List.forall_mem_cons.mpr ⟨lw_p39, List.forall_mem_cons.mpr ⟨lw_p40, List.forall_mem_cons.mpr ⟨lw_p41, List.forall_mem_cons.mpr ⟨lw_p42, fun _ h => absurd h List.not_mem_nil⟩⟩⟩⟩⟩⟩⟩⟩⟩⟩⟩
def lw_privs : List (MethodName × Nat) := lw_privs_1 ++ (lw_privs_2 ++ (lw_privs_3))
def lw_tbl : List Cond := k2_sels lw_privs ++ tables_1
theorem lw_privs_ok : ∀ q ∈ lw_privs, lw_okq q := by
  show ∀ q ∈ lw_privs_1 ++ (lw_privs_2 ++ (lw_privs_3)), lw_okq q
  exact List.forall_mem_append.mpr ⟨lw_r1, List.forall_mem_append.mpr ⟨lw_r2, lw_r3⟩⟩
end
section
/-! Names: of classes, fields in the order of their slots, methods and their code. Written by wip/gen/mknames.py out of claim/Statement.lean. -/
def xnR_SC : String := "SteppedCache"
def xnR_TA : String := "SteppedCache$Tally"
def xnR_ST : String := "SteppedCache$Store"
def xnR_WR : String := "SteppedCache$Writer"
def xnR_PA : String := "SteppedCache$Path"
def xnR_RD : String := "SteppedCache$Reader"
def xnR_MO : String := "SteppedCacheModel"
def xnR_AR : String := "java/util/Arrays"
def xnR_LW : String := "SteppedCacheLaw"
def xnT_SC : u_T := fun k => match k with
  | 0 => ("SteppedCache", "tally", "LSteppedCache$Tally;", true)
  | 1 => ("SteppedCache", "store", "LSteppedCache$Store;", true)
  | 2 => ("SteppedCache", "writer", "LSteppedCache$Writer;", true)
  | _ => ("SteppedCache", "readers", "[LSteppedCache$Reader;", true)
def xnK_SC : Nat → FieldType := fun k => match k with
  | 0 => .object "SteppedCache$Tally"
  | 1 => .object "SteppedCache$Store"
  | 2 => .object "SteppedCache$Writer"
  | _ => .array (.object "SteppedCache$Reader")
theorem xnM_SC : ∀ a, a < 4 → ∀ b, b < 4 → a ≠ b → (xnT_SC a).2.1 ≠ (xnT_SC b).2.1 := by decide +kernel
theorem xnO_SC : ∀ k, k < 4 → parseFieldDescriptor (xnT_SC k).2.2.1 = some (xnK_SC k) := by decide +kernel
def xnT_TA : u_T := fun k => match k with
  | 0 => ("SteppedCache$Tally", "evictions", "I", false)
  | 1 => ("SteppedCache$Tally", "moves", "I", false)
  | 2 => ("SteppedCache$Tally", "retries", "I", false)
  | 3 => ("SteppedCache$Tally", "waits", "I", false)
  | 4 => ("SteppedCache$Tally", "nearMisses", "I", false)
  | _ => ("SteppedCache$Tally", "expiredRemoved", "I", false)
def xnK_TA : Nat → FieldType := fun k => match k with
  | 0 => .int
  | 1 => .int
  | 2 => .int
  | 3 => .int
  | 4 => .int
  | _ => .int
theorem xnM_TA : ∀ a, a < 6 → ∀ b, b < 6 → a ≠ b → (xnT_TA a).2.1 ≠ (xnT_TA b).2.1 := by decide +kernel
theorem xnO_TA : ∀ k, k < 6 → parseFieldDescriptor (xnT_TA k).2.2.1 = some (xnK_TA k) := by decide +kernel
def xnT_ST : u_T := fun k => match k with
  | 0 => ("SteppedCache$Store", "tally", "LSteppedCache$Tally;", true)
  | 1 => ("SteppedCache$Store", "capacity", "I", true)
  | 2 => ("SteppedCache$Store", "ways", "I", true)
  | 3 => ("SteppedCache$Store", "places", "[I", true)
  | 4 => ("SteppedCache$Store", "keys", "[I", true)
  | 5 => ("SteppedCache$Store", "values", "[I", true)
  | 6 => ("SteppedCache$Store", "tokens", "[I", true)
  | 7 => ("SteppedCache$Store", "expiries", "[I", true)
  | 8 => ("SteppedCache$Store", "bits", "[Z", true)
  | 9 => ("SteppedCache$Store", "usedFlags", "[Z", true)
  | 10 => ("SteppedCache$Store", "versions", "[I", true)
  | 11 => ("SteppedCache$Store", "usedCount", "I", false)
  | 12 => ("SteppedCache$Store", "time", "I", false)
  | _ => ("SteppedCache$Store", "latestToken", "I", false)
def xnK_ST : Nat → FieldType := fun k => match k with
  | 0 => .object "SteppedCache$Tally"
  | 1 => .int
  | 2 => .int
  | 3 => .array .int
  | 4 => .array .int
  | 5 => .array .int
  | 6 => .array .int
  | 7 => .array .int
  | 8 => .array .boolean
  | 9 => .array .boolean
  | 10 => .array .int
  | 11 => .int
  | 12 => .int
  | _ => .int
theorem xnM_ST : ∀ a, a < 14 → ∀ b, b < 14 → a ≠ b → (xnT_ST a).2.1 ≠ (xnT_ST b).2.1 := by decide +kernel
theorem xnO_ST : ∀ k, k < 14 → parseFieldDescriptor (xnT_ST k).2.2.1 = some (xnK_ST k) := by decide +kernel
def xnT_WR : u_T := fun k => match k with
  | 0 => ("SteppedCache$Writer", "store", "LSteppedCache$Store;", true)
  | 1 => ("SteppedCache$Writer", "tally", "LSteppedCache$Tally;", true)
  | 2 => ("SteppedCache$Writer", "path", "LSteppedCache$Path;", true)
  | 3 => ("SteppedCache$Writer", "outcome", "I", false)
  | 4 => ("SteppedCache$Writer", "hand", "I", false)
  | 5 => ("SteppedCache$Writer", "kind", "I", false)
  | 6 => ("SteppedCache$Writer", "key", "I", false)
  | 7 => ("SteppedCache$Writer", "newValue", "I", false)
  | 8 => ("SteppedCache$Writer", "life", "I", false)
  | 9 => ("SteppedCache$Writer", "knownToken", "I", false)
  | 10 => ("SteppedCache$Writer", "next", "I", false)
  | 11 => ("SteppedCache$Writer", "changed", "I", false)
  | _ => ("SteppedCache$Writer", "moving", "I", false)
def xnK_WR : Nat → FieldType := fun k => match k with
  | 0 => .object "SteppedCache$Store"
  | 1 => .object "SteppedCache$Tally"
  | 2 => .object "SteppedCache$Path"
  | 3 => .int
  | 4 => .int
  | 5 => .int
  | 6 => .int
  | 7 => .int
  | 8 => .int
  | 9 => .int
  | 10 => .int
  | 11 => .int
  | _ => .int
theorem xnM_WR : ∀ a, a < 13 → ∀ b, b < 13 → a ≠ b → (xnT_WR a).2.1 ≠ (xnT_WR b).2.1 := by decide +kernel
theorem xnO_WR : ∀ k, k < 13 → parseFieldDescriptor (xnT_WR k).2.2.1 = some (xnK_WR k) := by decide +kernel
def xnT_PA : u_T := fun k => match k with
  | 0 => ("SteppedCache$Path", "store", "LSteppedCache$Store;", true)
  | 1 => ("SteppedCache$Path", "stops", "[I", true)
  | 2 => ("SteppedCache$Path", "length", "I", false)
  | 3 => ("SteppedCache$Path", "queue", "[I", true)
  | 4 => ("SteppedCache$Path", "before", "[I", true)
  | 5 => ("SteppedCache$Path", "depths", "[I", true)
  | _ => ("SteppedCache$Path", "queued", "I", false)
def xnK_PA : Nat → FieldType := fun k => match k with
  | 0 => .object "SteppedCache$Store"
  | 1 => .array .int
  | 2 => .int
  | 3 => .array .int
  | 4 => .array .int
  | 5 => .array .int
  | _ => .int
theorem xnM_PA : ∀ a, a < 7 → ∀ b, b < 7 → a ≠ b → (xnT_PA a).2.1 ≠ (xnT_PA b).2.1 := by decide +kernel
theorem xnO_PA : ∀ k, k < 7 → parseFieldDescriptor (xnT_PA k).2.2.1 = some (xnK_PA k) := by decide +kernel
def xnT_RD : u_T := fun k => match k with
  | 0 => ("SteppedCache$Reader", "store", "LSteppedCache$Store;", true)
  | 1 => ("SteppedCache$Reader", "writer", "LSteppedCache$Writer;", true)
  | 2 => ("SteppedCache$Reader", "tally", "LSteppedCache$Tally;", true)
  | 3 => ("SteppedCache$Reader", "state", "I", false)
  | 4 => ("SteppedCache$Reader", "copiedValue", "I", false)
  | 5 => ("SteppedCache$Reader", "copiedToken", "I", false)
  | 6 => ("SteppedCache$Reader", "key", "I", false)
  | 7 => ("SteppedCache$Reader", "retries", "I", false)
  | 8 => ("SteppedCache$Reader", "keptVersion", "I", false)
  | 9 => ("SteppedCache$Reader", "keptItem", "I", false)
  | _ => ("SteppedCache$Reader", "copiedExpiry", "I", false)
def xnK_RD : Nat → FieldType := fun k => match k with
  | 0 => .object "SteppedCache$Store"
  | 1 => .object "SteppedCache$Writer"
  | 2 => .object "SteppedCache$Tally"
  | 3 => .int
  | 4 => .int
  | 5 => .int
  | 6 => .int
  | 7 => .int
  | 8 => .int
  | 9 => .int
  | _ => .int
theorem xnM_RD : ∀ a, a < 11 → ∀ b, b < 11 → a ≠ b → (xnT_RD a).2.1 ≠ (xnT_RD b).2.1 := by decide +kernel
theorem xnO_RD : ∀ k, k < 11 → parseFieldDescriptor (xnT_RD k).2.2.1 = some (xnK_RD k) := by decide +kernel
def xnT_MO : u_T := fun k => match k with
  | 0 => ("SteppedCacheModel", "items", "I", false)
  | 1 => ("SteppedCacheModel", "ways", "I", false)
  | 2 => ("SteppedCacheModel", "time", "I", false)
  | 3 => ("SteppedCacheModel", "hand", "I", false)
  | 4 => ("SteppedCacheModel", "tokens", "I", false)
  | 5 => ("SteppedCacheModel", "held", "[I", true)
  | 6 => ("SteppedCacheModel", "taken", "[Z", true)
  | 7 => ("SteppedCacheModel", "keys", "[I", true)
  | 8 => ("SteppedCacheModel", "values", "[I", true)
  | 9 => ("SteppedCacheModel", "marks", "[I", true)
  | 10 => ("SteppedCacheModel", "ends", "[I", true)
  | 11 => ("SteppedCacheModel", "bits", "[Z", true)
  | 12 => ("SteppedCacheModel", "versions", "[I", true)
  | 13 => ("SteppedCacheModel", "next", "I", false)
  | 14 => ("SteppedCacheModel", "result", "I", false)
  | 15 => ("SteppedCacheModel", "kind", "I", false)
  | 16 => ("SteppedCacheModel", "key", "I", false)
  | 17 => ("SteppedCacheModel", "put", "I", false)
  | 18 => ("SteppedCacheModel", "life", "I", false)
  | 19 => ("SteppedCacheModel", "wanted", "I", false)
  | 20 => ("SteppedCacheModel", "target", "I", false)
  | 21 => ("SteppedCacheModel", "last", "I", false)
  | 22 => ("SteppedCacheModel", "from", "I", false)
  | 23 => ("SteppedCacheModel", "path", "[I", true)
  | 24 => ("SteppedCacheModel", "states", "[I", true)
  | 25 => ("SteppedCacheModel", "sought", "[I", true)
  | 26 => ("SteppedCacheModel", "kept", "[I", true)
  | 27 => ("SteppedCacheModel", "retries", "[I", true)
  | 28 => ("SteppedCacheModel", "got", "[I", true)
  | 29 => ("SteppedCacheModel", "copied", "[I", true)
  | 30 => ("SteppedCacheModel", "copiedMark", "[I", true)
  | 31 => ("SteppedCacheModel", "copiedEnd", "[I", true)
  | 32 => ("SteppedCacheModel", "evictions", "I", false)
  | 33 => ("SteppedCacheModel", "moves", "I", false)
  | 34 => ("SteppedCacheModel", "allRetries", "I", false)
  | 35 => ("SteppedCacheModel", "waits", "I", false)
  | 36 => ("SteppedCacheModel", "near", "I", false)
  | _ => ("SteppedCacheModel", "dead", "I", false)
def xnK_MO : Nat → FieldType := fun k => match k with
  | 0 => .int
  | 1 => .int
  | 2 => .int
  | 3 => .int
  | 4 => .int
  | 5 => .array .int
  | 6 => .array .boolean
  | 7 => .array .int
  | 8 => .array .int
  | 9 => .array .int
  | 10 => .array .int
  | 11 => .array .boolean
  | 12 => .array .int
  | 13 => .int
  | 14 => .int
  | 15 => .int
  | 16 => .int
  | 17 => .int
  | 18 => .int
  | 19 => .int
  | 20 => .int
  | 21 => .int
  | 22 => .int
  | 23 => .array .int
  | 24 => .array .int
  | 25 => .array .int
  | 26 => .array .int
  | 27 => .array .int
  | 28 => .array .int
  | 29 => .array .int
  | 30 => .array .int
  | 31 => .array .int
  | 32 => .int
  | 33 => .int
  | 34 => .int
  | 35 => .int
  | 36 => .int
  | _ => .int
theorem xnM_MO : ∀ a, a < 38 → ∀ b, b < 38 → a ≠ b → (xnT_MO a).2.1 ≠ (xnT_MO b).2.1 := by decide +kernel
theorem xnO_MO : ∀ k, k < 38 → parseFieldDescriptor (xnT_MO k).2.2.1 = some (xnK_MO k) := by decide +kernel
abbrev vwCl : List vw_C := [(xnR_SC, xnT_SC, 4), (xnR_TA, xnT_TA, 6), (xnR_ST, xnT_ST, 14), (xnR_WR, xnT_WR, 13), (xnR_PA, xnT_PA, 7), (xnR_RD, xnT_RD, 11), (xnR_MO, xnT_MO, 38)]
abbrev xnc_SC_init : ByteArray := prog_1_method_1_code
def xny_SC_init : MethodName := ⟨xnR_SC, "<init>", "(II)V"⟩
abbrev xnc_TA_init : ByteArray := prog_5_method_1_code
def xny_TA_init : MethodName := ⟨xnR_TA, "<init>", "()V"⟩
abbrev xnc_SC_isWithin : ByteArray := prog_1_method_21_code
def xny_SC_isWithin : MethodName := ⟨xnR_SC, "isWithin", "(III)Z"⟩
abbrev xnc_ST_init : ByteArray := prog_4_method_1_code
def xny_ST_init : MethodName := ⟨xnR_ST, "<init>", "(IILSteppedCache$Tally;)V"⟩
abbrev xnc_AR_fill : ByteArray := prog_9_method_103_code
def xny_AR_fill : MethodName := ⟨xnR_AR, "fill", "([II)V"⟩
abbrev xnc_WR_init : ByteArray := prog_6_method_1_code
def xny_WR_init : MethodName := ⟨xnR_WR, "<init>", "(LSteppedCache$Store;LSteppedCache$Tally;)V"⟩
abbrev xnc_PA_init : ByteArray := prog_2_method_1_code
def xny_PA_init : MethodName := ⟨xnR_PA, "<init>", "(LSteppedCache$Store;)V"⟩
abbrev xnc_RD_init : ByteArray := prog_3_method_1_code
def xny_RD_init : MethodName := ⟨xnR_RD, "<init>", "(LSteppedCache$Store;LSteppedCache$Writer;LSteppedCache$Tally;)V"⟩
abbrev xnc_SC_write : ByteArray := prog_1_method_2_code
def xny_SC_write : MethodName := ⟨xnR_SC, "write", "(IIIII)Z"⟩
abbrev xnc_WR_isUnderWay : ByteArray := prog_6_method_2_code
def xny_WR_isUnderWay : MethodName := ⟨xnR_WR, "isUnderWay", "()Z"⟩
abbrev xnc_WR_begin : ByteArray := prog_6_method_3_code
def xny_WR_begin : MethodName := ⟨xnR_WR, "begin", "(IIIII)V"⟩
abbrev xnc_SC_work : ByteArray := prog_1_method_3_code
def xny_SC_work : MethodName := ⟨xnR_SC, "work", "(I)I"⟩
abbrev xnc_WR_goOn : ByteArray := prog_6_method_4_code
def xny_WR_goOn : MethodName := ⟨xnR_WR, "goOn", "()V"⟩
abbrev xnc_WR_lookUpKey : ByteArray := prog_6_method_5_code
def xny_WR_lookUpKey : MethodName := ⟨xnR_WR, "lookUpKey", "()V"⟩
abbrev xnc_ST_lookUp : ByteArray := prog_4_method_5_code
def xny_ST_lookUp : MethodName := ⟨xnR_ST, "lookUp", "(I)I"⟩
abbrev xnc_SC_firstBucket : ByteArray := prog_1_method_25_code
def xny_SC_firstBucket : MethodName := ⟨xnR_SC, "firstBucket", "(I)I"⟩
abbrev xnc_SC_mix : ByteArray := prog_1_method_22_code
def xny_SC_mix : MethodName := ⟨xnR_SC, "mix", "(I)I"⟩
abbrev xnc_ST_lookUpIn : ByteArray := prog_4_method_7_code
def xny_ST_lookUpIn : MethodName := ⟨xnR_ST, "lookUpIn", "(II)I"⟩
abbrev xnc_ST_findIn : ByteArray := prog_4_method_6_code
def xny_ST_findIn : MethodName := ⟨xnR_ST, "findIn", "(II)I"⟩
abbrev xnc_SC_tagOf : ByteArray := prog_1_method_23_code
def xny_SC_tagOf : MethodName := ⟨xnR_SC, "tagOf", "(I)I"⟩
abbrev xnc_SC_secondBucket : ByteArray := prog_1_method_26_code
def xny_SC_secondBucket : MethodName := ⟨xnR_SC, "secondBucket", "(I)I"⟩
abbrev xnc_SC_otherBucket : ByteArray := prog_1_method_27_code
def xny_SC_otherBucket : MethodName := ⟨xnR_SC, "otherBucket", "(II)I"⟩
abbrev xnc_ST_isOver : ByteArray := prog_4_method_3_code
def xny_ST_isOver : MethodName := ⟨xnR_ST, "isOver", "(I)Z"⟩
abbrev xnc_ST_remove : ByteArray := prog_4_method_10_code
def xny_ST_remove : MethodName := ⟨xnR_ST, "remove", "(I)V"⟩
abbrev xnc_ST_growVersion : ByteArray := prog_4_method_9_code
def xny_ST_growVersion : MethodName := ⟨xnR_ST, "growVersion", "(II)V"⟩
abbrev xnc_SC_stripeOf : ByteArray := prog_1_method_24_code
def xny_SC_stripeOf : MethodName := ⟨xnR_SC, "stripeOf", "(I)I"⟩
abbrev xnc_WR_chooseWhenFound : ByteArray := prog_6_method_6_code
def xny_WR_chooseWhenFound : MethodName := ⟨xnR_WR, "chooseWhenFound", "(I)V"⟩
abbrev xnc_WR_chooseWhenNotFound : ByteArray := prog_6_method_7_code
def xny_WR_chooseWhenNotFound : MethodName := ⟨xnR_WR, "chooseWhenNotFound", "()V"⟩
abbrev xnc_ST_isFull : ByteArray := prog_4_method_2_code
def xny_ST_isFull : MethodName := ⟨xnR_ST, "isFull", "()Z"⟩
abbrev xnc_WR_changeValue : ByteArray := prog_6_method_8_code
def xny_WR_changeValue : MethodName := ⟨xnR_WR, "changeValue", "()V"⟩
abbrev xnc_WR_changeToken : ByteArray := prog_6_method_9_code
def xny_WR_changeToken : MethodName := ⟨xnR_WR, "changeToken", "()V"⟩
abbrev xnc_ST_renew : ByteArray := prog_4_method_11_code
def xny_ST_renew : MethodName := ⟨xnR_ST, "renew", "(II)V"⟩
abbrev xnc_WR_evict : ByteArray := prog_6_method_10_code
def xny_WR_evict : MethodName := ⟨xnR_WR, "evict", "()V"⟩
abbrev xnc_WR_turnHand : ByteArray := prog_6_method_11_code
def xny_WR_turnHand : MethodName := ⟨xnR_WR, "turnHand", "()V"⟩
abbrev xnc_WR_seekPath : ByteArray := prog_6_method_12_code
def xny_WR_seekPath : MethodName := ⟨xnR_WR, "seekPath", "()V"⟩
abbrev xnc_PA_seek : ByteArray := prog_2_method_2_code
def xny_PA_seek : MethodName := ⟨xnR_PA, "seek", "(I)Z"⟩
abbrev xnc_PA_enter : ByteArray := prog_2_method_3_code
def xny_PA_enter : MethodName := ⟨xnR_PA, "enter", "(III)V"⟩
abbrev xnc_PA_keep : ByteArray := prog_2_method_4_code
def xny_PA_keep : MethodName := ⟨xnR_PA, "keep", "(I)V"⟩
abbrev xnc_WR_chooseMove : ByteArray := prog_6_method_13_code
def xny_WR_chooseMove : MethodName := ⟨xnR_WR, "chooseMove", "()V"⟩
abbrev xnc_WR_moveOn : ByteArray := prog_6_method_14_code
def xny_WR_moveOn : MethodName := ⟨xnR_WR, "moveOn", "()V"⟩
abbrev xnc_WR_moveOff : ByteArray := prog_6_method_15_code
def xny_WR_moveOff : MethodName := ⟨xnR_WR, "moveOff", "()V"⟩
abbrev xnc_WR_insertKey : ByteArray := prog_6_method_16_code
def xny_WR_insertKey : MethodName := ⟨xnR_WR, "insertKey", "()V"⟩
abbrev xnc_ST_insert : ByteArray := prog_4_method_13_code
def xny_ST_insert : MethodName := ⟨xnR_ST, "insert", "(IIII)V"⟩
abbrev xnc_ST_lowestFree : ByteArray := prog_4_method_12_code
def xny_ST_lowestFree : MethodName := ⟨xnR_ST, "lowestFree", "()I"⟩
abbrev xnc_SC_outcome : ByteArray := prog_1_method_4_code
def xny_SC_outcome : MethodName := ⟨xnR_SC, "outcome", "()I"⟩
abbrev xnc_SC_get : ByteArray := prog_1_method_5_code
def xny_SC_get : MethodName := ⟨xnR_SC, "get", "(II)Z"⟩
abbrev xnc_SC_isReader : ByteArray := prog_1_method_20_code
def xny_SC_isReader : MethodName := ⟨xnR_SC, "isReader", "(I)Z"⟩
abbrev xnc_RD_isUnderWay : ByteArray := prog_3_method_2_code
def xny_RD_isUnderWay : MethodName := ⟨xnR_RD, "isUnderWay", "()Z"⟩
abbrev xnc_RD_begin : ByteArray := prog_3_method_3_code
def xny_RD_begin : MethodName := ⟨xnR_RD, "begin", "(I)V"⟩
abbrev xnc_SC_step : ByteArray := prog_1_method_6_code
def xny_SC_step : MethodName := ⟨xnR_SC, "step", "(I)I"⟩
abbrev xnc_RD_goOn : ByteArray := prog_3_method_4_code
def xny_RD_goOn : MethodName := ⟨xnR_RD, "goOn", "()V"⟩
abbrev xnc_RD_keepVersion : ByteArray := prog_3_method_5_code
def xny_RD_keepVersion : MethodName := ⟨xnR_RD, "keepVersion", "()V"⟩
abbrev xnc_ST_versionFor : ByteArray := prog_4_method_8_code
def xny_ST_versionFor : MethodName := ⟨xnR_ST, "versionFor", "(I)I"⟩
abbrev xnc_RD_lookInto : ByteArray := prog_3_method_6_code
def xny_RD_lookInto : MethodName := ⟨xnR_RD, "lookInto", "(II)V"⟩
abbrev xnc_RD_copyItem : ByteArray := prog_3_method_7_code
def xny_RD_copyItem : MethodName := ⟨xnR_RD, "copyItem", "()V"⟩
abbrev xnc_RD_checkVersion : ByteArray := prog_3_method_8_code
def xny_RD_checkVersion : MethodName := ⟨xnR_RD, "checkVersion", "()V"⟩
abbrev xnc_RD_end : ByteArray := prog_3_method_10_code
def xny_RD_end : MethodName := ⟨xnR_RD, "end", "(Z)V"⟩
abbrev xnc_RD_readLocked : ByteArray := prog_3_method_9_code
def xny_RD_readLocked : MethodName := ⟨xnR_RD, "readLocked", "()V"⟩
abbrev xnc_SC_state : ByteArray := prog_1_method_7_code
def xny_SC_state : MethodName := ⟨xnR_SC, "state", "(I)I"⟩
abbrev xnc_SC_value : ByteArray := prog_1_method_8_code
def xny_SC_value : MethodName := ⟨xnR_SC, "value", "(I)I"⟩
abbrev xnc_SC_isHit : ByteArray := prog_1_method_19_code
def xny_SC_isHit : MethodName := ⟨xnR_SC, "isHit", "(I)Z"⟩
abbrev xnc_SC_token : ByteArray := prog_1_method_9_code
def xny_SC_token : MethodName := ⟨xnR_SC, "token", "(I)I"⟩
abbrev xnc_SC_pass : ByteArray := prog_1_method_10_code
def xny_SC_pass : MethodName := ⟨xnR_SC, "pass", "(I)Z"⟩
abbrev xnc_SC_where : ByteArray := prog_1_method_11_code
def xny_SC_where : MethodName := ⟨xnR_SC, "where", "(I)I"⟩
abbrev xnc_ST_find : ByteArray := prog_4_method_4_code
def xny_ST_find : MethodName := ⟨xnR_ST, "find", "(I)I"⟩
abbrev xnc_SC_at : ByteArray := prog_1_method_12_code
def xny_SC_at : MethodName := ⟨xnR_SC, "at", "(I)I"⟩
abbrev xnc_SC_item : ByteArray := prog_1_method_13_code
def xny_SC_item : MethodName := ⟨xnR_SC, "item", "(II)I"⟩
abbrev xnc_SC_isUsedItem : ByteArray := prog_1_method_18_code
def xny_SC_isUsedItem : MethodName := ⟨xnR_SC, "isUsedItem", "(I)Z"⟩
abbrev xnc_SC_used : ByteArray := prog_1_method_14_code
def xny_SC_used : MethodName := ⟨xnR_SC, "used", "(I)Z"⟩
abbrev xnc_SC_version : ByteArray := prog_1_method_15_code
def xny_SC_version : MethodName := ⟨xnR_SC, "version", "(I)I"⟩
abbrev xnc_SC_hash : ByteArray := prog_1_method_16_code
def xny_SC_hash : MethodName := ⟨xnR_SC, "hash", "(I)I"⟩
abbrev xnc_SC_count : ByteArray := prog_1_method_17_code
def xny_SC_count : MethodName := ⟨xnR_SC, "count", "(I)I"⟩
abbrev xnc_LW_cell : ByteArray := method_2_code
def xny_LW_cell : MethodName := ⟨xnR_LW, "cell", "([II)I"⟩
abbrev xnc_MO_init : ByteArray := prog_8_method_1_code
def xny_MO_init : MethodName := ⟨xnR_MO, "<init>", "(II)V"⟩
abbrev xnc_MO_hash : ByteArray := prog_8_method_6_code
def xny_MO_hash : MethodName := ⟨xnR_MO, "hash", "(I)I"⟩
abbrev xnc_MO_bucket : ByteArray := prog_8_method_5_code
def xny_MO_bucket : MethodName := ⟨xnR_MO, "bucket", "(II)I"⟩
abbrev xnc_MO_mix : ByteArray := prog_8_method_2_code
def xny_MO_mix : MethodName := ⟨xnR_MO, "mix", "(I)I"⟩
abbrev xnc_MO_tag : ByteArray := prog_8_method_3_code
def xny_MO_tag : MethodName := ⟨xnR_MO, "tag", "(I)I"⟩
abbrev xnc_MO_stripe : ByteArray := prog_8_method_4_code
def xny_MO_stripe : MethodName := ⟨xnR_MO, "stripe", "(I)I"⟩
abbrev xnc_MO_where : ByteArray := prog_8_method_10_code
def xny_MO_where : MethodName := ⟨xnR_MO, "where", "(I)I"⟩
abbrev xnc_MO_search : ByteArray := prog_8_method_7_code
def xny_MO_search : MethodName := ⟨xnR_MO, "search", "(II)I"⟩
abbrev xnc_MO_write : ByteArray := prog_8_method_14_code
def xny_MO_write : MethodName := ⟨xnR_MO, "write", "(IIIII)Z"⟩
abbrev xnc_MO_work : ByteArray := prog_8_method_15_code
def xny_MO_work : MethodName := ⟨xnR_MO, "work", "(I)I"⟩
abbrev xnc_MO_one : ByteArray := prog_8_method_18_code
def xny_MO_one : MethodName := ⟨xnR_MO, "one", "()V"⟩
abbrev xnc_MO_begin : ByteArray := prog_8_method_20_code
def xny_MO_begin : MethodName := ⟨xnR_MO, "begin", "()V"⟩
abbrev xnc_MO_lookBoth : ByteArray := prog_8_method_9_code
def xny_MO_lookBoth : MethodName := ⟨xnR_MO, "lookBoth", "(I)I"⟩
abbrev xnc_MO_look : ByteArray := prog_8_method_8_code
def xny_MO_look : MethodName := ⟨xnR_MO, "look", "(II)I"⟩
abbrev xnc_MO_over : ByteArray := prog_8_method_11_code
def xny_MO_over : MethodName := ⟨xnR_MO, "over", "(I)Z"⟩
abbrev xnc_MO_remove : ByteArray := prog_8_method_12_code
def xny_MO_remove : MethodName := ⟨xnR_MO, "remove", "(I)V"⟩
abbrev xnc_MO_finish : ByteArray := prog_8_method_17_code
def xny_MO_finish : MethodName := ⟨xnR_MO, "finish", "(I)V"⟩
abbrev xnc_MO_many : ByteArray := prog_8_method_13_code
def xny_MO_many : MethodName := ⟨xnR_MO, "many", "()I"⟩
abbrev xnc_MO_stamp : ByteArray := prog_8_method_19_code
def xny_MO_stamp : MethodName := ⟨xnR_MO, "stamp", "(I)V"⟩
abbrev xnc_MO_evict : ByteArray := prog_8_method_21_code
def xny_MO_evict : MethodName := ⟨xnR_MO, "evict", "()V"⟩
abbrev xnc_MO_seek : ByteArray := prog_8_method_23_code
def xny_MO_seek : MethodName := ⟨xnR_MO, "seek", "()V"⟩
abbrev xnc_MO_leads : ByteArray := prog_8_method_22_code
def xny_MO_leads : MethodName := ⟨xnR_MO, "leads", "(II)Z"⟩
abbrev xnc_MO_move : ByteArray := prog_8_method_24_code
def xny_MO_move : MethodName := ⟨xnR_MO, "move", "()V"⟩
abbrev xnc_MO_enter : ByteArray := prog_8_method_25_code
def xny_MO_enter : MethodName := ⟨xnR_MO, "enter", "()V"⟩
abbrev xnc_MO_outcome : ByteArray := prog_8_method_16_code
def xny_MO_outcome : MethodName := ⟨xnR_MO, "outcome", "()I"⟩
abbrev xnc_MO_get : ByteArray := prog_8_method_28_code
def xny_MO_get : MethodName := ⟨xnR_MO, "get", "(II)Z"⟩
abbrev xnc_MO_reader : ByteArray := prog_8_method_26_code
def xny_MO_reader : MethodName := ⟨xnR_MO, "reader", "(I)Z"⟩
abbrev xnc_MO_reading : ByteArray := prog_8_method_27_code
def xny_MO_reading : MethodName := ⟨xnR_MO, "reading", "(I)Z"⟩
abbrev xnc_MO_step : ByteArray := prog_8_method_29_code
def xny_MO_step : MethodName := ⟨xnR_MO, "step", "(I)I"⟩
abbrev xnc_MO_keep : ByteArray := prog_8_method_30_code
def xny_MO_keep : MethodName := ⟨xnR_MO, "keep", "(II)V"⟩
abbrev xnc_MO_find : ByteArray := prog_8_method_31_code
def xny_MO_find : MethodName := ⟨xnR_MO, "find", "(II)V"⟩
abbrev xnc_MO_copy : ByteArray := prog_8_method_32_code
def xny_MO_copy : MethodName := ⟨xnR_MO, "copy", "(I)V"⟩
abbrev xnc_MO_check : ByteArray := prog_8_method_33_code
def xny_MO_check : MethodName := ⟨xnR_MO, "check", "(I)V"⟩
abbrev xnc_MO_locked : ByteArray := prog_8_method_34_code
def xny_MO_locked : MethodName := ⟨xnR_MO, "locked", "(I)V"⟩
abbrev xnc_MO_state : ByteArray := prog_8_method_35_code
def xny_MO_state : MethodName := ⟨xnR_MO, "state", "(I)I"⟩
abbrev xnc_MO_value : ByteArray := prog_8_method_36_code
def xny_MO_value : MethodName := ⟨xnR_MO, "value", "(I)I"⟩
abbrev xnc_MO_token : ByteArray := prog_8_method_37_code
def xny_MO_token : MethodName := ⟨xnR_MO, "token", "(I)I"⟩
abbrev xnc_MO_pass : ByteArray := prog_8_method_38_code
def xny_MO_pass : MethodName := ⟨xnR_MO, "pass", "(I)Z"⟩
abbrev xnc_MO_at : ByteArray := prog_8_method_39_code
def xny_MO_at : MethodName := ⟨xnR_MO, "at", "(I)I"⟩
abbrev xnc_MO_used : ByteArray := prog_8_method_40_code
def xny_MO_used : MethodName := ⟨xnR_MO, "used", "(I)Z"⟩
abbrev xnc_MO_item : ByteArray := prog_8_method_41_code
def xny_MO_item : MethodName := ⟨xnR_MO, "item", "(II)I"⟩
abbrev xnc_MO_version : ByteArray := prog_8_method_42_code
def xny_MO_version : MethodName := ⟨xnR_MO, "version", "(I)I"⟩
abbrev xnc_MO_count : ByteArray := prog_8_method_43_code
def xny_MO_count : MethodName := ⟨xnR_MO, "count", "(I)I"⟩
abbrev xnc_LW_law : ByteArray := code
def xny_LW_law : MethodName := ⟨xnR_LW, "law", "([I)Z"⟩
end
section
/-! The frame of all walks: one world function, a body's judgement xf_V, contracts xf_M over all words of the tables. -/
abbrev xf_T : Type := (Nat → Int32) × (Nat → Nat → Int32)
/-- the class's numbers, and the reference's -/
abbrev xf_S : Type := xf_T × xf_T
/-- a scalar is set -/
def xf_I (σ : xf_T) (k : Nat) (v : Int32) : xf_T := (upd σ.1 k v, σ.2)
/-- an element of array j is set -/
def xf_A (σ : xf_T) (j i : Nat) (v : Int32) : xf_T := (σ.1, fun k => if k = j then upd (σ.2 j) i v else σ.2 k)
def xf_nest : Cond → Bool
  | .methodLinkNest .. => true
  | .fieldLinkNest .. => true
  | _ => false
def xf_GW : List Cond := lw_tbl.filter goodWord
def xf_NL : List Cond := lw_tbl.filter xf_nest
def xf_NW (U : State) : Prop := ∀ w ∈ xf_NL, va_Nw w U
theorem xf_NW_warm {s U : State} (hW : s.WarmedH U.vm) (h : xf_NW s) : xf_NW U := fun w hw => by
  have hk := (List.mem_filter.mp hw).2
  have h0 := h w hw
  cases w <;> first | exact va_Nw.warmF hW h0 | exact va_Nw.warmM hW h0 | (simp [xf_nest] at hk)
theorem xf_NW_vm {s U : State} (hW : s.vm = U.vm) (h : xf_NW s) : xf_NW U := fun w hw => by
  have hk := (List.mem_filter.mp hw).2
  have h0 := h w hw
  cases w <;> first | exact va_Nw.same rfl hW h0 | (simp [xf_nest] at hk)
theorem xf_good {y : MethodName} {cc : ByteArray} {nL : Nat} {ret : Option FieldType} (h : Cond.code y cc nL ret ∈ xf_GW) : GoodIn xf_GW (.code y cc nL ret :: xf_GW) := by
  intro w hw
  have hg : w ∈ xf_GW := by
    rcases List.mem_cons.mp hw with rfl | h1
    · exact h
    · exact h1
  exact ⟨hg, good_of_word (List.mem_filter.mp hg).2⟩
/-! locals: the k-th entry is what local k holds, if that is known -/
def xf_pr : Nat → List (Option Value) → List (Nat × Value)
  | _, [] => []
  | k, none :: r => xf_pr (k + 1) r
  | k, some v :: r => (k, v) :: xf_pr (k + 1) r
theorem xf_pr_mem : ∀ (L : List (Option Value)) (k : Nat) (q : Nat × Value), q ∈ xf_pr k L ↔ ∃ j, L[j]? = some (some q.2) ∧ q.1 = k + j
  | [], k, q => by simp [xf_pr]
  | none :: r, k, q => by
    rw [xf_pr, xf_pr_mem r (k + 1) q]
    constructor
    · rintro ⟨j, h1, h2⟩
      exact ⟨j + 1, by simpa using h1, by omega⟩
    · rintro ⟨j, h1, h2⟩
      cases j with
      | zero => simp at h1
      | succ j => exact ⟨j, by simpa using h1, by omega⟩
  | some v :: r, k, q => by
    rw [xf_pr, List.mem_cons, xf_pr_mem r (k + 1) q]
    constructor
    · rintro (rfl | ⟨j, h1, h2⟩)
      · exact ⟨0, by simp, by simp⟩
      · exact ⟨j + 1, by simpa using h1, by omega⟩
    · rintro ⟨j, h1, h2⟩
      cases j with
      | zero =>
        left
        obtain ⟨a, b⟩ := q
        simp at h1 h2
        rw [h1, h2]
      | succ j => exact Or.inr ⟨j, by simpa using h1, by omega⟩
def xf_has (ls : Array Slot) (nL : Nat) (L : List (Option Value)) : Prop := lv_has ls nL (xf_pr 0 L) ∧ ∀ (j : Nat) (v : Value), L[j]? = some (some v) → v.category = 1
theorem xf_has.at {ls : Array Slot} {nL : Nat} {L : List (Option Value)} (h : xf_has ls nL L) {k : Nat} {v : Value} (hk : L[k]? = some (some v)) : ls[k]? = some (.val v) :=
  h.1.2.2 (k, v) ((xf_pr_mem L 0 (k, v)).mpr ⟨k, hk, by simp⟩)
theorem xf_has.set {ls : Array Slot} {nL : Nat} {L : List (Option Value)} {i : Nat} {v : Value} (hL : xf_has ls nL L) (hc : v.category = 1) {ls' : Array Slot} (h' : lv_has ls' nL ((i, v) :: (xf_pr 0 L).filter (fun q => !(q.1 == i) && !(q.1 + 1 == i && q.2.category == 2)))) : xf_has ls' nL (L.set i (some v)) := by
  have key : ∀ (j : Nat) (u : Value), (L.set i (some v))[j]? = some (some u) → (j = i ∧ u = v) ∨ (j ≠ i ∧ L[j]? = some (some u)) := by
    intro j u hj
    by_cases hji : j = i
    · subst hji
      by_cases hl : j < L.length
      · rw [List.getElem?_set_self hl] at hj
        exact Or.inl ⟨rfl, (Option.some.inj (Option.some.inj hj)).symm⟩
      · rw [List.getElem?_eq_none (by simpa using hl)] at hj
        cases hj
    · rw [List.getElem?_set_ne (Ne.symm hji)] at hj
      exact Or.inr ⟨hji, hj⟩
  refine ⟨⟨h'.1, h'.2.1, fun q hq => ?_⟩, fun j u hj => ?_⟩
  · obtain ⟨j, h1, h2⟩ := (xf_pr_mem _ 0 q).mp hq
    have hq1 : q.1 = j := by omega
    rcases key j q.2 h1 with ⟨e1, e2⟩ | ⟨e1, e2⟩
    · have : q = (i, v) := by
        obtain ⟨a, b⟩ := q
        simp at hq1 e2
        rw [hq1, e1, e2]
      rw [this]
      exact h'.2.2 (i, v) List.mem_cons_self
    · refine h'.2.2 q (List.mem_cons_of_mem _ (List.mem_filter.mpr ⟨(xf_pr_mem L 0 q).mpr ⟨j, e2, by omega⟩, ?_⟩))
      have hc1 := hL.2 j q.2 e2
      have : ¬ q.1 = i := by rw [hq1]; exact e1
      simp [this, hc1]
  · rcases key j u hj with ⟨e1, e2⟩ | ⟨e1, e2⟩
    · rw [e2]; exact hc
    · exact hL.2 j u e2
/-! a body's fixed things, in one -/
abbrev xf_C : Type := Program × Launch × Env × Room × State × MethodId × Array Value × List Frame × Method × Code × (Nat → Prop) × (State → Prop) × va_G × List (ClassId × FieldType) × (xf_S → va_W) × Nat × Nat × Nat
/-- from here, whatever the heap that holds the world, the machine comes to its end -/
def xf_V (X : xf_C) (pc : Nat) (L : List (Option Value)) (st : List Value) (σ : xf_S) : Prop := match X with
  | (p, l, e, R, s, m, args, below, meth, c, A, Q, D, tys, wf, nL, cells, slots) => ∀ (H : Heap) (locs : List Loc) (ls : Array Slot), va_P D vwCl (wf σ) H → va_D A (wf σ) → va_S A s.heap H locs → xf_has ls nL L → W p l e R s m args below meth c H locs cells slots Q (F0 m pc ls st)
def xf_ok (X : xf_C) (l0 : Launch) (own : String) (cc : ByteArray) (nL0 fr lo : Nat) (wf0 : xf_S → va_W) (D0 : va_G) (tys0 : List (ClassId × FieldType)) : Prop := match X with
  | (p, l, e, R, s, m, args, below, meth, c, A, Q, D, tys, wf, nL, cells, slots) => (l = l0 ∧ nL = nL0 ∧ wf = wf0 ∧ D = D0 ∧ tys = tys0) ∧ p.tables.exec = Jvm.exec ∧ c.code = cc ∧ c.maxLocals = nL ∧ s.vm.findClass own = some m.cls ∧ (∀ w ∈ xf_GW, w.before args s = true) ∧ va_K D vwCl tys s ∧ xf_NW s ∧ (∀ q : Nat, s.heap.size ≤ q → A q) ∧ (R.frames = fr ∧ R.locals = lo) ∧ cells ≤ R.cells ∧ slots ≤ R.slots
def xf_Qc (D : va_G) (tys : List (ClassId × FieldType)) (wf : xf_S → va_W) (A : Nat → Prop) (rq : Option Value → xf_S → Prop) : Array Value → State → Outcome → State → Prop := fun _ st oc t => (∃ (v : Option Value) (u : xf_S), oc = .returned v ∧ rq v u ∧ va_P D vwCl (wf u) t.heap ∧ va_K D vwCl tys t ∧ va_D A (wf u)) ∧ va_F A st t
def xf_end (X : xf_C) (ret : Option FieldType) (rq : Option Value → xf_S → Prop) : Prop := match X with
  | (p, l, e, R, s, m, args, below, meth, c, A, Q, D, tys, wf, nL, cells, slots) => meth.sig.returnType = ret ∧ meth.locks = false ∧ Q = MQ below (xf_Qc D tys wf A rq) args s cells slots A
/-- a contract: from the world σ and the arguments av, the method comes back with rq -/
def xf_M (l : Launch) (y : MethodName) (cc : ByteArray) (nL : Nat) (ret : Option FieldType) (fr lo : Nat) (wf : xf_S → va_W) (D : va_G) (tys : List (ClassId × FieldType)) (av : List Value) (σ : xf_S) (rq : Option Value → xf_S → Prop) : Prop :=
  ∀ sz : Nat, Met l y (.code y cc nL ret :: xf_GW) { frames := fr, cells := 0, slots := 0, locals := lo } (va_Pc av (fun U => U.heap.size = sz ∧ va_P D vwCl (wf σ) U.heap ∧ va_K D vwCl tys U ∧ va_D (fun _ => True) (wf σ) ∧ xf_NW U)) (xf_Qc D tys wf (va_A (wf σ) sz) rq) 0 0 (va_A (wf σ) sz)
/-- a contract that says all: the answer v, the world σ' -/
def xf_F (l : Launch) (y : MethodName) (cc : ByteArray) (nL : Nat) (ret : Option FieldType) (fr lo : Nat) (wf : xf_S → va_W) (D : va_G) (tys : List (ClassId × FieldType)) (av : List Value) (σ : xf_S) (v : Option Value) (σ' : xf_S) : Prop := xf_M l y cc nL ret fr lo wf D tys av σ (fun v' u => v' = v ∧ u = σ')
def xf_cats (L : List (Option Value)) : Bool := L.all (fun o => match o with
  | none => true
  | some v => v.category == 1)
theorem xf_cat {L : List (Option Value)} (h : xf_cats L = true) : ∀ (j : Nat) (v : Value), L[j]? = some (some v) → v.category = 1 := by
  intro j v hj
  have := List.all_eq_true.mp h _ (List.mem_of_getElem? hj)
  simpa using this
theorem xf_start {l : Launch} {y : MethodName} {cc : ByteArray} {nL : Nat} {ret : Option FieldType} {fr lo : Nat} {wf : xf_S → va_W} {D : va_G} {tys : List (ClassId × FieldType)} {av : List Value} {σ : xf_S} {rq : Option Value → xf_S → Prop} {own : String} (L : List (Option Value)) (ho : y.cls = own) (hy : plainName y.cls = true) (hn : (lg_sl av).length ≤ nL) (hL : xf_pr 0 L = lv_args 0 av) (hc : ∀ (j : Nat) (v : Value), L[j]? = some (some v) → v.category = 1)
    (body : ∀ X : xf_C, xf_ok X l own cc nL fr lo wf D tys → xf_end X ret rq → xf_V X 0 L [] σ) : xf_M l y cc nL ret fr lo wf D tys av σ rq := by
  subst ho
  intro sz
  refine Met.ofW (cc := cc) (maxL := nL) (ret := ret) hy rfl ?_
  intro p e s m args below meth c s₁ B hml hv
  obtain ⟨rfl, hsz, hP, hK, hD0, hN⟩ := hv
  subst hsz
  have hD := hD0.self (sz := s.heap.size)
  have hts := atoms_spec (ws := .code y cc nL ret :: xf_GW) B.pre
  have hl := lv_entry av (n := nL) hn
  rw [lg_entry_eq]
  have V := body (p, l, e, (headSpec (.code y cc nL ret :: xf_GW) ({ frames := fr, cells := 0, slots := 0, locals := lo } : Room)).room, s, m, av.toArray, below, meth, c, va_A (wf σ) s.heap.size, _, D, tys, wf, nL, 0, 0) ⟨⟨rfl, rfl, rfl, rfl, rfl⟩, B.exec, B.bytes, hml, findClass_of_methodNamed B.named, fun w hw => hts w (List.mem_cons_of_mem _ hw), hK, hN, fun q h => Or.inr h, ⟨rfl, rfl⟩, Nat.zero_le _, Nat.zero_le _⟩ ⟨B.returns, B.notSynchronized, rfl⟩
  exact V s.heap [] _ hP hD va_S.rf ⟨by rw [hL]; exact hl, hc⟩
section XFR
variable {X : xf_C} {l : Launch} {own : String} {cc : ByteArray} {nL fr lo : Nat} {wf : xf_S → va_W} {D : va_G} {tys : List (ClassId × FieldType)} {pc : Nat} {L : List (Option Value)} {st : List Value} {σ : xf_S}
theorem xf_iconst (hX : xf_ok X l own cc nL fr lo wf D tys) (np : Nat) (hp : pc + 1 = np) {n : Int} (v : Int32) (hd : decode cc pc = .ok (.iconst n, 1)) (hv : Int32.ofInt n = v) (k : xf_V X np L (.int v :: st) σ) : xf_V X pc L st σ := by
  subst hp
  obtain ⟨p, l, e, R, s, m, args, below, meth, c, A, Q, D, tys, wf, nL, cells, slots⟩ := X
  exact fun H locs ls hP hD hS hl => lv_iconst hX.2.1 hX.2.2.1 hd hv (k H locs ls hP hD hS hl)
theorem xf_bipush (hX : xf_ok X l own cc nL fr lo wf D tys) (np : Nat) (hp : pc + 2 = np) {n : Int} (v : Int32) (hd : decode cc pc = .ok (.bipush n, 2)) (hv : (Int8.ofInt n).toInt32 = v) (k : xf_V X np L (.int v :: st) σ) : xf_V X pc L st σ := by
  subst hp
  obtain ⟨p, l, e, R, s, m, args, below, meth, c, A, Q, D, tys, wf, nL, cells, slots⟩ := X
  exact fun H locs ls hP hD hS hl => lv_bipush hX.2.1 hX.2.2.1 hd hv (k H locs ls hP hD hS hl)
theorem xf_sipush (hX : xf_ok X l own cc nL fr lo wf D tys) (np : Nat) (hp : pc + 3 = np) {n : Int} (v : Int32) (hd : decode cc pc = .ok (.sipush n, 3)) (hv : (Int16.ofInt n).toInt32 = v) (k : xf_V X np L (.int v :: st) σ) : xf_V X pc L st σ := by
  subst hp
  obtain ⟨p, l, e, R, s, m, args, below, meth, c, A, Q, D, tys, wf, nL, cells, slots⟩ := X
  exact fun H locs ls hP hD hS hl => lv_sipush hX.2.1 hX.2.2.1 hd hv (k H locs ls hP hD hS hl)
theorem xf_ldc (hX : xf_ok X l own cc nL fr lo wf D tys) (np : Nat) (hp : pc + 2 = np) {idx : Nat} {v : Int32} (hw : Cond.constant own idx v ∈ xf_GW) (hd : decode cc pc = .ok (.ldc idx, 2)) (k : xf_V X np L (.int v :: st) σ) : xf_V X pc L st σ := by
  subst hp
  obtain ⟨p, l, e, R, s, m, args, below, meth, c, A, Q, D, tys, wf, nL, cells, slots⟩ := X
  exact fun H locs ls hP hD hS hl => lv_ldc hX.2.1 hX.2.2.1 hX.2.2.2.2.1 (hX.2.2.2.2.2.1 _ hw) hd (k H locs ls hP hD hS hl)
theorem xf_iload_n (hX : xf_ok X l own cc nL fr lo wf D tys) (np : Nat) (hp : pc + 1 = np) {k : Fin 4} (i : Nat) {x : Int32} (hd : decode cc pc = .ok (.iload_n k, 1)) (hi : (k : Nat) = i) (hk : L[i]? = some (some (.int x))) (kk : xf_V X np L (.int x :: st) σ) : xf_V X pc L st σ := by
  subst hp
  obtain ⟨p, l, e, R, s, m, args, below, meth, c, A, Q, D, tys, wf, nL, cells, slots⟩ := X
  exact fun H locs ls hP hD hS hl => lv_iload_n hX.2.1 hX.2.2.1 hd hi (hl.at hk) (kk H locs ls hP hD hS hl)
theorem xf_iload (hX : xf_ok X l own cc nL fr lo wf D tys) (np : Nat) (hp : pc + 2 = np) {i : Nat} {x : Int32} (hd : decode cc pc = .ok (.iload i, 2)) (hk : L[i]? = some (some (.int x))) (kk : xf_V X np L (.int x :: st) σ) : xf_V X pc L st σ := by
  subst hp
  obtain ⟨p, l, e, R, s, m, args, below, meth, c, A, Q, D, tys, wf, nL, cells, slots⟩ := X
  exact fun H locs ls hP hD hS hl => lv_iload hX.2.1 hX.2.2.1 hd (hl.at hk) (kk H locs ls hP hD hS hl)
theorem xf_aload_n (hX : xf_ok X l own cc nL fr lo wf D tys) (np : Nat) (hp : pc + 1 = np) {k : Fin 4} (i : Nat) {x : Nat} (hd : decode cc pc = .ok (.aload_n k, 1)) (hi : (k : Nat) = i) (hk : L[i]? = some (some (.ref x))) (kk : xf_V X np L (.ref x :: st) σ) : xf_V X pc L st σ := by
  subst hp
  obtain ⟨p, l, e, R, s, m, args, below, meth, c, A, Q, D, tys, wf, nL, cells, slots⟩ := X
  exact fun H locs ls hP hD hS hl => lv_aload_n hX.2.1 hX.2.2.1 hd hi (hl.at hk) (kk H locs ls hP hD hS hl)
theorem xf_aload (hX : xf_ok X l own cc nL fr lo wf D tys) (np : Nat) (hp : pc + 2 = np) {i : Nat} {x : Nat} (hd : decode cc pc = .ok (.aload i, 2)) (hk : L[i]? = some (some (.ref x))) (kk : xf_V X np L (.ref x :: st) σ) : xf_V X pc L st σ := by
  subst hp
  obtain ⟨p, l, e, R, s, m, args, below, meth, c, A, Q, D, tys, wf, nL, cells, slots⟩ := X
  exact fun H locs ls hP hD hS hl => lv_aload hX.2.1 hX.2.2.1 hd (hl.at hk) (kk H locs ls hP hD hS hl)
theorem xf_istore_n (hX : xf_ok X l own cc nL fr lo wf D tys) (np : Nat) (hp : pc + 1 = np) {k : Fin 4} (i : Nat) {x : Int32} (hd : decode cc pc = .ok (.istore_n k, 1)) (hi : (k : Nat) = i) (hn : i < nL) (kk : xf_V X np (L.set i (some (.int x))) st σ) : xf_V X pc L (.int x :: st) σ := by
  subst hp
  obtain ⟨p, l, e, R, s, m, args, below, meth, c, A, Q, D, tys, wf, nL', cells, slots⟩ := X
  obtain ⟨⟨h1, h2, h3, h4, h5⟩, hx, hb, -⟩ := hX
  subst h2
  exact fun H locs ls hP hD hS hl => lv_istore_n hx hb hd hi hl.1 hn rfl (fun ls' h' => kk H locs ls' hP hD hS (hl.set rfl h'))
theorem xf_istore (hX : xf_ok X l own cc nL fr lo wf D tys) (np : Nat) (hp : pc + 2 = np) {i : Nat} {x : Int32} (hd : decode cc pc = .ok (.istore i, 2)) (hn : i < nL) (kk : xf_V X np (L.set i (some (.int x))) st σ) : xf_V X pc L (.int x :: st) σ := by
  subst hp
  obtain ⟨p, l, e, R, s, m, args, below, meth, c, A, Q, D, tys, wf, nL', cells, slots⟩ := X
  obtain ⟨⟨h1, h2, h3, h4, h5⟩, hx, hb, -⟩ := hX
  subst h2
  exact fun H locs ls hP hD hS hl => lv_istore hx hb hd hl.1 hn rfl (fun ls' h' => kk H locs ls' hP hD hS (hl.set rfl h'))
theorem xf_iinc (hX : xf_ok X l own cc nL fr lo wf D tys) (np : Nat) (hp : pc + 3 = np) {i : Nat} {n : Int} {x : Int32} (v : Int32) (hd : decode cc pc = .ok (.iinc i n, 3)) (hk : L[i]? = some (some (.int x))) (hv : x + Int32.ofInt n = v) (hn : i < nL) (kk : xf_V X np (L.set i (some (.int v))) st σ) : xf_V X pc L st σ := by
  subst hp
  obtain ⟨p, l, e, R, s, m, args, below, meth, c, A, Q, D, tys, wf, nL', cells, slots⟩ := X
  obtain ⟨⟨h1, h2, h3, h4, h5⟩, hx, hb, -⟩ := hX
  subst h2
  intro H locs ls hP hD hS hl
  obtain ⟨k, hk2⟩ := List.getElem?_of_mem ((xf_pr_mem L 0 (i, .int x)).mpr ⟨i, hk, by simp⟩)
  exact lv_iinc hx hb hd hl.1 hk2 hv hn rfl (fun ls' h' => kk H locs ls' hP hD hS (hl.set rfl h'))
theorem xf_iadd (hX : xf_ok X l own cc nL fr lo wf D tys) (np : Nat) (hp : pc + 1 = np) {x y : Int32} (hd : decode cc pc = .ok (.iadd, 1)) (k : xf_V X np L (.int (x + y) :: st) σ) : xf_V X pc L (.int y :: .int x :: st) σ := by
  subst hp
  obtain ⟨p, l, e, R, s, m, args, below, meth, c, A, Q, D, tys, wf, nL, cells, slots⟩ := X
  exact fun H locs ls hP hD hS hl => lv_iadd hX.2.1 hX.2.2.1 hd (k H locs ls hP hD hS hl)
theorem xf_isub (hX : xf_ok X l own cc nL fr lo wf D tys) (np : Nat) (hp : pc + 1 = np) {x y : Int32} (hd : decode cc pc = .ok (.isub, 1)) (k : xf_V X np L (.int (x - y) :: st) σ) : xf_V X pc L (.int y :: .int x :: st) σ := by
  subst hp
  obtain ⟨p, l, e, R, s, m, args, below, meth, c, A, Q, D, tys, wf, nL, cells, slots⟩ := X
  exact fun H locs ls hP hD hS hl => lv_isub hX.2.1 hX.2.2.1 hd (k H locs ls hP hD hS hl)
theorem xf_imul (hX : xf_ok X l own cc nL fr lo wf D tys) (np : Nat) (hp : pc + 1 = np) {x y : Int32} (hd : decode cc pc = .ok (.imul, 1)) (k : xf_V X np L (.int (x * y) :: st) σ) : xf_V X pc L (.int y :: .int x :: st) σ := by
  subst hp
  obtain ⟨p, l, e, R, s, m, args, below, meth, c, A, Q, D, tys, wf, nL, cells, slots⟩ := X
  exact fun H locs ls hP hD hS hl => lv_imul hX.2.1 hX.2.2.1 hd (k H locs ls hP hD hS hl)
theorem xf_iand (hX : xf_ok X l own cc nL fr lo wf D tys) (np : Nat) (hp : pc + 1 = np) {x y : Int32} (hd : decode cc pc = .ok (.iand, 1)) (k : xf_V X np L (.int (x &&& y) :: st) σ) : xf_V X pc L (.int y :: .int x :: st) σ := by
  subst hp
  obtain ⟨p, l, e, R, s, m, args, below, meth, c, A, Q, D, tys, wf, nL, cells, slots⟩ := X
  exact fun H locs ls hP hD hS hl => lv_iand hX.2.1 hX.2.2.1 hd (k H locs ls hP hD hS hl)
theorem xf_ixor (hX : xf_ok X l own cc nL fr lo wf D tys) (np : Nat) (hp : pc + 1 = np) {x y : Int32} (hd : decode cc pc = .ok (.ixor, 1)) (k : xf_V X np L (.int (x ^^^ y) :: st) σ) : xf_V X pc L (.int y :: .int x :: st) σ := by
  subst hp
  obtain ⟨p, l, e, R, s, m, args, below, meth, c, A, Q, D, tys, wf, nL, cells, slots⟩ := X
  exact fun H locs ls hP hD hS hl => lv_ixor hX.2.1 hX.2.2.1 hd (k H locs ls hP hD hS hl)
theorem xf_idiv (hX : xf_ok X l own cc nL fr lo wf D tys) (np : Nat) (hp : pc + 1 = np) {x y : Int32} (hd : decode cc pc = .ok (.idiv, 1)) (h0 : ¬ y = 0) (k : xf_V X np L (.int (x / y) :: st) σ) : xf_V X pc L (.int y :: .int x :: st) σ := by
  subst hp
  obtain ⟨p, l, e, R, s, m, args, below, meth, c, A, Q, D, tys, wf, nL, cells, slots⟩ := X
  exact fun H locs ls hP hD hS hl => lv_idiv hX.2.1 hX.2.2.1 hd h0 (k H locs ls hP hD hS hl)
theorem xf_irem (hX : xf_ok X l own cc nL fr lo wf D tys) (np : Nat) (hp : pc + 1 = np) {x y : Int32} (hd : decode cc pc = .ok (.irem, 1)) (h0 : ¬ y = 0) (k : xf_V X np L (.int (x - x / y * y) :: st) σ) : xf_V X pc L (.int y :: .int x :: st) σ := by
  subst hp
  obtain ⟨p, l, e, R, s, m, args, below, meth, c, A, Q, D, tys, wf, nL, cells, slots⟩ := X
  exact fun H locs ls hP hD hS hl => lv_irem hX.2.1 hX.2.2.1 hd h0 (k H locs ls hP hD hS hl)
theorem xf_iushr (hX : xf_ok X l own cc nL fr lo wf D tys) (np : Nat) (hp : pc + 1 = np) {x y : Int32} (hd : decode cc pc = .ok (.iushr, 1)) (k : xf_V X np L (.int (x.toUInt32 >>> (y.toUInt32 &&& Int32.toUInt32 31)).toInt32 :: st) σ) : xf_V X pc L (.int y :: .int x :: st) σ := by
  subst hp
  obtain ⟨p, l, e, R, s, m, args, below, meth, c, A, Q, D, tys, wf, nL, cells, slots⟩ := X
  exact fun H locs ls hP hD hS hl => lv_iushr hX.2.1 hX.2.2.1 hd rfl (k H locs ls hP hD hS hl)
theorem xf_dup (hX : xf_ok X l own cc nL fr lo wf D tys) (np : Nat) (hp : pc + 1 = np) {v : Value} (hd : decode cc pc = .ok (.dup, 1)) (hv : v.category = 1) (k : xf_V X np L (v :: v :: st) σ) : xf_V X pc L (v :: st) σ := by
  subst hp
  obtain ⟨p, l, e, R, s, m, args, below, meth, c, A, Q, D, tys, wf, nL, cells, slots⟩ := X
  exact fun H locs ls hP hD hS hl => lv_dup hX.2.1 hX.2.2.1 hd hv (k H locs ls hP hD hS hl)
theorem xf_dup2 (hX : xf_ok X l own cc nL fr lo wf D tys) (np : Nat) (hp : pc + 1 = np) {v u : Value} (hd : decode cc pc = .ok (.dup2, 1)) (hv : v.category = 1) (hu : u.category = 1) (k : xf_V X np L (v :: u :: v :: u :: st) σ) : xf_V X pc L (v :: u :: st) σ := by
  subst hp
  obtain ⟨p, l, e, R, s, m, args, below, meth, c, A, Q, D, tys, wf, nL, cells, slots⟩ := X
  exact fun H locs ls hP hD hS hl => lv_dup2_11 hX.2.1 hX.2.2.1 hd hv hu (k H locs ls hP hD hS hl)
theorem xf_dup_x1 (hX : xf_ok X l own cc nL fr lo wf D tys) (np : Nat) (hp : pc + 1 = np) {v u : Value} (hd : decode cc pc = .ok (.dup_x1, 1)) (hv : v.category = 1) (hu : u.category = 1) (k : xf_V X np L (v :: u :: v :: st) σ) : xf_V X pc L (v :: u :: st) σ := by
  subst hp
  obtain ⟨p, l, e, R, s, m, args, below, meth, c, A, Q, D, tys, wf, nL, cells, slots⟩ := X
  exact fun H locs ls hP hD hS hl => lv_dup_x1 hX.2.1 hX.2.2.1 hd hv hu (k H locs ls hP hD hS hl)
theorem xf_pop (hX : xf_ok X l own cc nL fr lo wf D tys) (np : Nat) (hp : pc + 1 = np) {v : Value} (hd : decode cc pc = .ok (.pop, 1)) (hv : v.category = 1) (k : xf_V X np L st σ) : xf_V X pc L (v :: st) σ := by
  subst hp
  obtain ⟨p, l, e, R, s, m, args, below, meth, c, A, Q, D, tys, wf, nL, cells, slots⟩ := X
  exact fun H locs ls hP hD hS hl => lv_pop hX.2.1 hX.2.2.1 hd hv (k H locs ls hP hD hS hl)
theorem xf_goto (hX : xf_ok X l own cc nL fr lo wf D tys) {off : Int} (tgt : Nat) (hd : decode cc pc = .ok (.goto off, 3)) (ht : (pc : Int) + off = (tgt : Int)) (k : xf_V X tgt L st σ) : xf_V X pc L st σ := by
  obtain ⟨p, l, e, R, s, m, args, below, meth, c, A, Q, D, tys, wf, nL, cells, slots⟩ := X
  exact fun H locs ls hP hD hS hl => lv_goto hX.2.1 hX.2.2.1 hd ht (k H locs ls hP hD hS hl)
theorem xf_if_eq (hX : xf_ok X l own cc nL fr lo wf D tys) (np : Nat) (hp : pc + 3 = np) {x : Int32} {off : Int} (tgt : Nat) (hd : decode cc pc = .ok (.ifCond .eq off, 3)) (ht : (pc : Int) + off = (tgt : Int)) (kt : x = 0 → xf_V X tgt L st σ) (kf : ¬ x = 0 → xf_V X np L st σ) : xf_V X pc L (.int x :: st) σ := by
  subst hp
  obtain ⟨p, l, e, R, s, m, args, below, meth, c, A, Q, D, tys, wf, nL, cells, slots⟩ := X
  exact fun H locs ls hP hD hS hl => lv_if_eq hX.2.1 hX.2.2.1 hd ht (fun h => kt h H locs ls hP hD hS hl) (fun h => kf h H locs ls hP hD hS hl)
theorem xf_icmp_eq (hX : xf_ok X l own cc nL fr lo wf D tys) (np : Nat) (hp : pc + 3 = np) {x y : Int32} {off : Int} (tgt : Nat) (hd : decode cc pc = .ok (.if_icmp .eq off, 3)) (ht : (pc : Int) + off = (tgt : Int)) (kt : x = y → xf_V X tgt L st σ) (kf : ¬ x = y → xf_V X np L st σ) : xf_V X pc L (.int y :: .int x :: st) σ := by
  subst hp
  obtain ⟨p, l, e, R, s, m, args, below, meth, c, A, Q, D, tys, wf, nL, cells, slots⟩ := X
  exact fun H locs ls hP hD hS hl => lv_icmp_eq hX.2.1 hX.2.2.1 hd ht (fun h => kt h H locs ls hP hD hS hl) (fun h => kf h H locs ls hP hD hS hl)
theorem xf_if_ne (hX : xf_ok X l own cc nL fr lo wf D tys) (np : Nat) (hp : pc + 3 = np) {x : Int32} {off : Int} (tgt : Nat) (hd : decode cc pc = .ok (.ifCond .ne off, 3)) (ht : (pc : Int) + off = (tgt : Int)) (kt : ¬ x = 0 → xf_V X tgt L st σ) (kf : x = 0 → xf_V X np L st σ) : xf_V X pc L (.int x :: st) σ := by
  subst hp
  obtain ⟨p, l, e, R, s, m, args, below, meth, c, A, Q, D, tys, wf, nL, cells, slots⟩ := X
  exact fun H locs ls hP hD hS hl => lv_if_ne hX.2.1 hX.2.2.1 hd ht (fun h => kt h H locs ls hP hD hS hl) (fun h => kf h H locs ls hP hD hS hl)
theorem xf_icmp_ne (hX : xf_ok X l own cc nL fr lo wf D tys) (np : Nat) (hp : pc + 3 = np) {x y : Int32} {off : Int} (tgt : Nat) (hd : decode cc pc = .ok (.if_icmp .ne off, 3)) (ht : (pc : Int) + off = (tgt : Int)) (kt : ¬ x = y → xf_V X tgt L st σ) (kf : x = y → xf_V X np L st σ) : xf_V X pc L (.int y :: .int x :: st) σ := by
  subst hp
  obtain ⟨p, l, e, R, s, m, args, below, meth, c, A, Q, D, tys, wf, nL, cells, slots⟩ := X
  exact fun H locs ls hP hD hS hl => lv_icmp_ne hX.2.1 hX.2.2.1 hd ht (fun h => kt h H locs ls hP hD hS hl) (fun h => kf h H locs ls hP hD hS hl)
theorem xf_if_lt (hX : xf_ok X l own cc nL fr lo wf D tys) (np : Nat) (hp : pc + 3 = np) {x : Int32} {off : Int} (tgt : Nat) (hd : decode cc pc = .ok (.ifCond .lt off, 3)) (ht : (pc : Int) + off = (tgt : Int)) (kt : x < 0 → xf_V X tgt L st σ) (kf : ¬ x < 0 → xf_V X np L st σ) : xf_V X pc L (.int x :: st) σ := by
  subst hp
  obtain ⟨p, l, e, R, s, m, args, below, meth, c, A, Q, D, tys, wf, nL, cells, slots⟩ := X
  exact fun H locs ls hP hD hS hl => lv_if_lt hX.2.1 hX.2.2.1 hd ht (fun h => kt h H locs ls hP hD hS hl) (fun h => kf h H locs ls hP hD hS hl)
theorem xf_icmp_lt (hX : xf_ok X l own cc nL fr lo wf D tys) (np : Nat) (hp : pc + 3 = np) {x y : Int32} {off : Int} (tgt : Nat) (hd : decode cc pc = .ok (.if_icmp .lt off, 3)) (ht : (pc : Int) + off = (tgt : Int)) (kt : x < y → xf_V X tgt L st σ) (kf : ¬ x < y → xf_V X np L st σ) : xf_V X pc L (.int y :: .int x :: st) σ := by
  subst hp
  obtain ⟨p, l, e, R, s, m, args, below, meth, c, A, Q, D, tys, wf, nL, cells, slots⟩ := X
  exact fun H locs ls hP hD hS hl => lv_icmp_lt hX.2.1 hX.2.2.1 hd ht (fun h => kt h H locs ls hP hD hS hl) (fun h => kf h H locs ls hP hD hS hl)
theorem xf_if_ge (hX : xf_ok X l own cc nL fr lo wf D tys) (np : Nat) (hp : pc + 3 = np) {x : Int32} {off : Int} (tgt : Nat) (hd : decode cc pc = .ok (.ifCond .ge off, 3)) (ht : (pc : Int) + off = (tgt : Int)) (kt : 0 ≤ x → xf_V X tgt L st σ) (kf : ¬ 0 ≤ x → xf_V X np L st σ) : xf_V X pc L (.int x :: st) σ := by
  subst hp
  obtain ⟨p, l, e, R, s, m, args, below, meth, c, A, Q, D, tys, wf, nL, cells, slots⟩ := X
  exact fun H locs ls hP hD hS hl => lv_if_ge hX.2.1 hX.2.2.1 hd ht (fun h => kt h H locs ls hP hD hS hl) (fun h => kf h H locs ls hP hD hS hl)
theorem xf_icmp_ge (hX : xf_ok X l own cc nL fr lo wf D tys) (np : Nat) (hp : pc + 3 = np) {x y : Int32} {off : Int} (tgt : Nat) (hd : decode cc pc = .ok (.if_icmp .ge off, 3)) (ht : (pc : Int) + off = (tgt : Int)) (kt : y ≤ x → xf_V X tgt L st σ) (kf : ¬ y ≤ x → xf_V X np L st σ) : xf_V X pc L (.int y :: .int x :: st) σ := by
  subst hp
  obtain ⟨p, l, e, R, s, m, args, below, meth, c, A, Q, D, tys, wf, nL, cells, slots⟩ := X
  exact fun H locs ls hP hD hS hl => lv_icmp_ge hX.2.1 hX.2.2.1 hd ht (fun h => kt h H locs ls hP hD hS hl) (fun h => kf h H locs ls hP hD hS hl)
theorem xf_if_gt (hX : xf_ok X l own cc nL fr lo wf D tys) (np : Nat) (hp : pc + 3 = np) {x : Int32} {off : Int} (tgt : Nat) (hd : decode cc pc = .ok (.ifCond .gt off, 3)) (ht : (pc : Int) + off = (tgt : Int)) (kt : 0 < x → xf_V X tgt L st σ) (kf : ¬ 0 < x → xf_V X np L st σ) : xf_V X pc L (.int x :: st) σ := by
  subst hp
  obtain ⟨p, l, e, R, s, m, args, below, meth, c, A, Q, D, tys, wf, nL, cells, slots⟩ := X
  exact fun H locs ls hP hD hS hl => lv_if_gt hX.2.1 hX.2.2.1 hd ht (fun h => kt h H locs ls hP hD hS hl) (fun h => kf h H locs ls hP hD hS hl)
theorem xf_icmp_gt (hX : xf_ok X l own cc nL fr lo wf D tys) (np : Nat) (hp : pc + 3 = np) {x y : Int32} {off : Int} (tgt : Nat) (hd : decode cc pc = .ok (.if_icmp .gt off, 3)) (ht : (pc : Int) + off = (tgt : Int)) (kt : y < x → xf_V X tgt L st σ) (kf : ¬ y < x → xf_V X np L st σ) : xf_V X pc L (.int y :: .int x :: st) σ := by
  subst hp
  obtain ⟨p, l, e, R, s, m, args, below, meth, c, A, Q, D, tys, wf, nL, cells, slots⟩ := X
  exact fun H locs ls hP hD hS hl => lv_icmp_gt hX.2.1 hX.2.2.1 hd ht (fun h => kt h H locs ls hP hD hS hl) (fun h => kf h H locs ls hP hD hS hl)
theorem xf_if_le (hX : xf_ok X l own cc nL fr lo wf D tys) (np : Nat) (hp : pc + 3 = np) {x : Int32} {off : Int} (tgt : Nat) (hd : decode cc pc = .ok (.ifCond .le off, 3)) (ht : (pc : Int) + off = (tgt : Int)) (kt : x ≤ 0 → xf_V X tgt L st σ) (kf : ¬ x ≤ 0 → xf_V X np L st σ) : xf_V X pc L (.int x :: st) σ := by
  subst hp
  obtain ⟨p, l, e, R, s, m, args, below, meth, c, A, Q, D, tys, wf, nL, cells, slots⟩ := X
  exact fun H locs ls hP hD hS hl => lv_if_le hX.2.1 hX.2.2.1 hd ht (fun h => kt h H locs ls hP hD hS hl) (fun h => kf h H locs ls hP hD hS hl)
theorem xf_icmp_le (hX : xf_ok X l own cc nL fr lo wf D tys) (np : Nat) (hp : pc + 3 = np) {x y : Int32} {off : Int} (tgt : Nat) (hd : decode cc pc = .ok (.if_icmp .le off, 3)) (ht : (pc : Int) + off = (tgt : Int)) (kt : x ≤ y → xf_V X tgt L st σ) (kf : ¬ x ≤ y → xf_V X np L st σ) : xf_V X pc L (.int y :: .int x :: st) σ := by
  subst hp
  obtain ⟨p, l, e, R, s, m, args, below, meth, c, A, Q, D, tys, wf, nL, cells, slots⟩ := X
  exact fun H locs ls hP hD hS hl => lv_icmp_le hX.2.1 hX.2.2.1 hd ht (fun h => kt h H locs ls hP hD hS hl) (fun h => kf h H locs ls hP hD hS hl)
theorem xf_tabOut (hX : xf_ok X l own cc nL fr lo wf D tys) {dflt lw hi : Int} {offs : Array Int} {len : Nat} {x : Int32} (tgt : Nat) (hd : decode cc pc = .ok (.tableswitch dflt lw hi offs, len)) (h : x.toInt < lw ∨ hi < x.toInt) (ht : (pc : Int) + dflt = (tgt : Int)) (k : xf_V X tgt L st σ) : xf_V X pc L (.int x :: st) σ := by
  obtain ⟨p, l, e, R, s, m, args, below, meth, c, A, Q, D, tys, wf, nL, cells, slots⟩ := X
  exact fun H locs ls hP hD hS hl => lv_tableOut hX.2.1 hX.2.2.1 hd h ht (k H locs ls hP hD hS hl)
theorem xf_tabIn (hX : xf_ok X l own cc nL fr lo wf D tys) {dflt lw hi off : Int} {offs : Array Int} {len : Nat} {x : Int32} (tgt : Nat) (hd : decode cc pc = .ok (.tableswitch dflt lw hi offs, len)) (h1 : ¬ x.toInt < lw) (h2 : ¬ hi < x.toInt) (ho : offs[(x.toInt - lw).toNat]? = some off) (ht : (pc : Int) + off = (tgt : Int)) (k : xf_V X tgt L st σ) : xf_V X pc L (.int x :: st) σ := by
  obtain ⟨p, l, e, R, s, m, args, below, meth, c, A, Q, D, tys, wf, nL, cells, slots⟩ := X
  exact fun H locs ls hP hD hS hl => lv_tableIn hX.2.1 hX.2.2.1 hd h1 h2 ho ht (k H locs ls hP hD hS hl)
/-! cells of the world -/
theorem xf_get (hX : xf_ok X l own cc nL fr lo wf D tys) (np : Nat) (hp : pc + 3 = np) {C : String} {T : u_T} {N ci idx a : Nat} (hin : ∀ w ∈ u_ws C T N, w ∈ xf_GW) (q0 : Nat) {fs : List Value} (he : (wf σ)[q0]? = some (a, .inr (ci, fs))) (hc : vwCl[ci]? = some (C, T, N)) (k : Nat) (hk : k < N) (hlink : Cond.fieldLink own idx (T k).1 (T k).2.1 (T k).2.2.1 ∈ xf_GW) {v : Value} (hv : fs[k]? = some v) (hd : decode cc pc = .ok (.getfield idx, 3)) (kk : xf_V X np L (v :: st) σ) : xf_V X pc L (.ref a :: st) σ := by
  subst hp
  obtain ⟨p, l, e, R, s, m, args, below, meth, c, A, Q, D', tys', wf', nL', cells, slots⟩ := X
  obtain ⟨⟨h1, h2, h3, h4, h5⟩, hx, hb, hml, hown, hts, hK, hN, hA, hR, -⟩ := hX
  subst h2 h3 h4 h5
  exact fun H locs ls hP hD hS hl => va_get hx hb hts hin hown hK hP q0 he hc k hk (hts _ hlink) (fun _ h9 => h9) hv hd (kk H locs ls hP hD hS hl)
theorem xf_put (hX : xf_ok X l own cc nL fr lo wf D tys) (np : Nat) (hp : pc + 3 = np) {C : String} {T : u_T} {N ci idx a : Nat} (hin : ∀ w ∈ u_ws C T N, w ∈ xf_GW) (ty0 : Nat → FieldType) (hty : ∀ k, k < N → parseFieldDescriptor (T k).2.2.1 = some (ty0 k)) (hnm : ∀ a, a < N → ∀ b, b < N → a ≠ b → (T a).2.1 ≠ (T b).2.1) (q0 : Nat) {fs : List Value} (he : (wf σ)[q0]? = some (a, .inr (ci, fs))) (hc : vwCl[ci]? = some (C, T, N)) (k : Nat) (hk : k < N) (hlink : Cond.fieldLink own idx (T k).1 (T k).2.1 (T k).2.2.1 ∈ xf_GW) (hfin : (T k).2.2.2 = false) {v : Int32} (hdsc : parseFieldDescriptor (T k).2.2.1 = some .int) (hl9 : k < fs.length) {σ' : xf_S} (hσ : (wf σ).set q0 (a, .inr (ci, fs.set k (.int v))) = wf σ') (hd : decode cc pc = .ok (.putfield idx, 3)) (kk : xf_V X np L st σ') : xf_V X pc L (.int v :: .ref a :: st) σ := by
  subst hp
  obtain ⟨p, l, e, R, s, m, args, below, meth, c, A, Q, D', tys', wf', nL', cells, slots⟩ := X
  obtain ⟨⟨h1, h2, h3, h4, h5⟩, hx, hb, hml, hown, hts, hK, hN, hA, hR, -⟩ := hX
  subst h2 h3 h4 h5
  exact fun H locs ls hP hD hS hl => va_put (v := .int v) hx hb hts hin ty0 hty hnm hown hK hP hD hS q0 he hc k hk (hts _ hlink) (fun _ h9 => h9) hfin hdsc rfl rfl hl9 hd (fun H1 locs1 hP1 hD1 hS1 => kk H1 locs1 ls (hσ ▸ hP1) (hσ ▸ hD1) hS1 hl)
theorem xf_iald (hX : xf_ok X l own cc nL fr lo wf D tys) (np : Nat) (hp : pc + 1 = np) (q0 t0 : Nat) {a : Nat} {cA : ClassId} {n : Nat} {f : Nat → Int32} (ha : (wf σ)[q0]? = some (a, .inl (cA, n, .inl f))) (ht : tys[t0]? = some (cA, .int)) {i : Int32} (hin : vp_in i n) (hd : decode cc pc = .ok (.iaload, 1)) (kk : xf_V X np L (.int (f i.toNatClampNeg) :: st) σ) : xf_V X pc L (.int i :: .ref a :: st) σ := by
  subst hp
  obtain ⟨p, l, e, R, s, m, args, below, meth, c, A, Q, D', tys', wf', nL', cells, slots⟩ := X
  obtain ⟨⟨h1, h2, h3, h4, h5⟩, hx, hb, hml, hown, hts, hK, hN, hA, hR, -⟩ := hX
  subst h2 h3 h4 h5
  exact fun H locs ls hP hD hS hl => va_iald hx hb hK hP q0 t0 ha ht hin hd (kk H locs ls hP hD hS hl)
theorem xf_zald (hX : xf_ok X l own cc nL fr lo wf D tys) (np : Nat) (hp : pc + 1 = np) (q0 t0 : Nat) {a : Nat} {cA : ClassId} {n : Nat} {f : Nat → Int32} (ha : (wf σ)[q0]? = some (a, .inl (cA, n, .inl f))) (ht : tys[t0]? = some (cA, .boolean)) {i : Int32} (hin : vp_in i n) (hd : decode cc pc = .ok (.baload, 1)) (kk : xf_V X np L (.int (f i.toNatClampNeg) :: st) σ) : xf_V X pc L (.int i :: .ref a :: st) σ := by
  subst hp
  obtain ⟨p, l, e, R, s, m, args, below, meth, c, A, Q, D', tys', wf', nL', cells, slots⟩ := X
  obtain ⟨⟨h1, h2, h3, h4, h5⟩, hx, hb, hml, hown, hts, hK, hN, hA, hR, -⟩ := hX
  subst h2 h3 h4 h5
  exact fun H locs ls hP hD hS hl => va_zald hx hb hK hP q0 t0 ha ht hin hd (kk H locs ls hP hD hS hl)
theorem xf_aald (hX : xf_ok X l own cc nL fr lo wf D tys) (np : Nat) (hp : pc + 1 = np) (q0 t0 : Nat) {a : Nat} {cA : ClassId} {C : String} {n : Nat} {f : Nat → Option Nat} (ha : (wf σ)[q0]? = some (a, .inl (cA, n, .inr (.inr (.inr (.inr f)))))) (ht : tys[t0]? = some (cA, .object C)) {i : Int32} (hin : vp_in i n) (hd : decode cc pc = .ok (.aaload, 1)) {v : Value} (hv : va_rf (f i.toNatClampNeg) = v) (kk : xf_V X np L (v :: st) σ) : xf_V X pc L (.int i :: .ref a :: st) σ := by
  subst hp
  obtain ⟨p, l, e, R, s, m, args, below, meth, c, A, Q, D', tys', wf', nL', cells, slots⟩ := X
  obtain ⟨⟨h1, h2, h3, h4, h5⟩, hx, hb, hml, hown, hts, hK, hN, hA, hR, -⟩ := hX
  subst h2 h3 h4 h5 hv
  exact fun H locs ls hP hD hS hl => va_aldq hx hb hK hP q0 t0 ha ht hin hd (kk H locs ls hP hD hS hl)
theorem xf_iast (hX : xf_ok X l own cc nL fr lo wf D tys) (np : Nat) (hp : pc + 1 = np) (q0 t0 : Nat) {a : Nat} {cA : ClassId} {n : Nat} {f : Nat → Int32} (ha : (wf σ)[q0]? = some (a, .inl (cA, n, .inl f))) (ht : tys[t0]? = some (cA, .int)) {i x : Int32} (hin : vp_in i n) (hd : decode cc pc = .ok (.iastore, 1)) {σ' : xf_S} (hσ : (wf σ).set q0 (a, .inl (cA, n, .inl (upd f i.toNatClampNeg x))) = wf σ') (kk : xf_V X np L st σ') : xf_V X pc L (.int x :: .int i :: .ref a :: st) σ := by
  subst hp
  obtain ⟨p, l, e, R, s, m, args, below, meth, c, A, Q, D', tys', wf', nL', cells, slots⟩ := X
  obtain ⟨⟨h1, h2, h3, h4, h5⟩, hx, hb, hml, hown, hts, hK, hN, hA, hR, -⟩ := hX
  subst h2 h3 h4 h5
  exact fun H locs ls hP hD hS hl => va_iast hx hb hK hP hD hS q0 t0 ha ht hin hd (fun H1 locs1 hP1 hD1 hS1 => kk H1 locs1 ls (hσ ▸ hP1) (hσ ▸ hD1) hS1 hl)
theorem xf_zast (hX : xf_ok X l own cc nL fr lo wf D tys) (np : Nat) (hp : pc + 1 = np) (q0 t0 : Nat) {a : Nat} {cA : ClassId} {n : Nat} {f : Nat → Int32} (ha : (wf σ)[q0]? = some (a, .inl (cA, n, .inl f))) (ht : tys[t0]? = some (cA, .boolean)) {i x : Int32} (hin : vp_in i n) (hx0 : vp_nar .boolean x = x) (hd : decode cc pc = .ok (.bastore, 1)) {σ' : xf_S} (hσ : (wf σ).set q0 (a, .inl (cA, n, .inl (upd f i.toNatClampNeg x))) = wf σ') (kk : xf_V X np L st σ') : xf_V X pc L (.int x :: .int i :: .ref a :: st) σ := by
  subst hp
  obtain ⟨p, l, e, R, s, m, args, below, meth, c, A, Q, D', tys', wf', nL', cells, slots⟩ := X
  obtain ⟨⟨h1, h2, h3, h4, h5⟩, hx, hb, hml, hown, hts, hK, hN, hA, hR, -⟩ := hX
  subst h2 h3 h4 h5
  exact fun H locs ls hP hD hS hl => va_zast hx hb hK hP hD hS q0 t0 ha ht hin hd (fun H1 locs1 hP1 hD1 hS1 => by rw [hx0] at hP1 hD1; exact kk H1 locs1 ls (hσ ▸ hP1) (hσ ▸ hD1) hS1 hl)
theorem xf_alen (hX : xf_ok X l own cc nL fr lo wf D tys) (np : Nat) (hp : pc + 1 = np) (q0 t0 : Nat) {a : Nat} {cA : ClassId} {x : vp_A} (ha : (wf σ)[q0]? = some (a, .inl (cA, x))) {ty : FieldType} (ht : tys[t0]? = some (cA, ty)) {v : Int32} (hv : Int32.ofNat x.1 = v) (hd : decode cc pc = .ok (.arraylength, 1)) (kk : xf_V X np L (.int v :: st) σ) : xf_V X pc L (.ref a :: st) σ := by
  subst hp
  obtain ⟨p, l, e, R, s, m, args, below, meth, c, A, Q, D', tys', wf', nL', cells, slots⟩ := X
  obtain ⟨⟨h1, h2, h3, h4, h5⟩, hx, hb, hml, hown, hts, hK, hN, hA, hR, -⟩ := hX
  subst h2 h3 h4 h5
  exact fun H locs ls hP hD hS hl => va_alen hx hb hK hP q0 t0 ha ht hv hd (kk H locs ls hP hD hS hl)
/-! ends -/
variable {r : Int32} {σ' : xf_S} {rq : Option Value → xf_S → Prop}
theorem xf_iret (hX : xf_ok X l own cc nL fr lo wf D tys) (hE : xf_end X (some .int) rq) (hd : decode cc pc = .ok (.ireturn, 1)) (h : rq (some (.int r)) σ) : xf_V X pc L [.int r] σ := by
  obtain ⟨p, l, e, R, s, m, args, below, meth, c, A, Q, D', tys', wf', nL', cells, slots⟩ := X
  obtain ⟨⟨h1, h2, h3, h4, h5⟩, hx, hb, hml, hown, hts, hK, hN, hA, hR, -⟩ := hX
  obtain ⟨hr, hlk, hQ⟩ := hE
  subst h2 h3 h4 h5 hQ
  exact fun H locs ls hP hD hS hl => W.iret hx hb hr (fun t ht hW => ⟨⟨_, σ, rfl, h, by rw [ht]; exact hP, va_K.moved hW.alike hK, hD⟩, hS.F ht⟩) hS.2.2 hd hlk
theorem xf_zret (hX : xf_ok X l own cc nL fr lo wf D tys) (hE : xf_end X (some .boolean) rq) (hd : decode cc pc = .ok (.ireturn, 1)) (hz : narrow .boolean (.int r) = .int r) (h : rq (some (.int r)) σ) : xf_V X pc L [.int r] σ := by
  obtain ⟨p, l, e, R, s, m, args, below, meth, c, A, Q, D', tys', wf', nL', cells, slots⟩ := X
  obtain ⟨⟨h1, h2, h3, h4, h5⟩, hx, hb, hml, hown, hts, hK, hN, hA, hR, -⟩ := hX
  obtain ⟨hr, hlk, hQ⟩ := hE
  subst h2 h3 h4 h5 hQ
  exact fun H locs ls hP hD hS hl => W.zret hx hb hr hz (fun t ht hW => ⟨⟨_, σ, rfl, h, by rw [ht]; exact hP, va_K.moved hW.alike hK, hD⟩, hS.F ht⟩) hS.2.2 hd hlk
theorem xf_vret (hX : xf_ok X l own cc nL fr lo wf D tys) (hE : xf_end X none rq) (hd : decode cc pc = .ok (.return_, 1)) (h : rq none σ) : xf_V X pc L [] σ := by
  obtain ⟨p, l, e, R, s, m, args, below, meth, c, A, Q, D', tys', wf', nL', cells, slots⟩ := X
  obtain ⟨⟨h1, h2, h3, h4, h5⟩, hx, hb, hml, hown, hts, hK, hN, hA, hR, -⟩ := hX
  obtain ⟨hr, hlk, hQ⟩ := hE
  subst h2 h3 h4 h5 hQ
  exact fun H locs ls hP hD hS hl => W.vret hx hb hr (fun t ht hW => ⟨⟨_, σ, rfl, h, by rw [ht]; exact hP, va_K.moved hW.alike hK, hD⟩, hS.F ht⟩) hS.2.2 hd hlk
/-! calls -/
/-- what the tables say of a callee -/
def xf_mth (y : MethodName) (cc : ByteArray) (nL : Nat) (ret : Option FieldType) (n : Nat) : Prop := Cond.code y cc nL ret ∈ xf_GW ∧ Cond.initialized y.cls ∈ xf_GW ∧ y.cls ≠ "java/lang/invoke/MethodHandle" ∧ y.cls ≠ "java/lang/invoke/VarHandle" ∧ (parseMethodDescriptor y.desc).map (fun d => d.parameters.length) = some n
def xf_sta (y : MethodName) (cc : ByteArray) (nL : Nat) (ret : Option FieldType) (n : Nat) : Prop := xf_mth y cc nL ret n ∧ Cond.static y ∈ xf_GW
def xf_vir (y : MethodName) (cc : ByteArray) (nL : Nat) (ret : Option FieldType) (n : Nat) : Prop := xf_mth y cc nL ret n ∧ Cond.instanceMethod y ∈ xf_GW ∧ Cond.selects y.cls y y ∈ xf_GW
theorem xf_blind {av : List Value} {sz : Nat} : FrameBlind (va_Pc av (fun U => U.heap.size = sz ∧ va_P D vwCl (wf σ) U.heap ∧ va_K D vwCl tys U ∧ va_D (fun _ => True) (wf σ) ∧ xf_NW U)) := by
  intro a U g mk q
  obtain ⟨q0, q1, qP, qK, qD, qN⟩ := q
  exact ⟨q0, q1, qP, va_K.moved (u := U) (U := U.calling g mk a) (Vm.Alike.refl U.vm) qK, qD, xf_NW_vm (s := U) (U := U.calling g mk a) rfl qN⟩
/-- behind any call: the world that came back -/
theorem xf_back {p : Program} {l : Launch} {e : Env} {R : Room} {s : State} {m : MethodId} {args : Array Value} {below : List Frame} {meth : Method} {c : Code} {H : Heap} {locs : List Loc} {cells slots : Nat} {Q : State → Prop} {A : Nat → Prop} {ls : Array Slot} {st0 rest : List Value} {aa : Array Value}
    (hr : va_Run p l e R s m args below meth c H locs cells slots 0 0 (F0 m pc ls st0) rest (xf_Qc D tys wf (va_A (wf σ) H.size) rq aa) (va_A (wf σ) H.size)) (hD : va_D A (wf σ)) (hS : va_S A s.heap H locs) (hA : ∀ q : Nat, s.heap.size ≤ q → A q)
    (kk : ∀ (v : Option Value) (u : xf_S), rq v u → ∀ (H1 : Heap) (locs1 : List Loc), va_P D vwCl (wf u) H1 → va_D A (wf u) → va_S A s.heap H1 locs1 → W p l e R s m args below meth c H1 locs1 cells slots Q (F0 m (pc + 3) ls (v.toList ++ rest))) : W p l e R s m args below meth c H locs cells slots Q (F0 m pc ls st0) := by
  have hF : ∀ q, va_A (wf σ) H.size q → A q := by
    intro q h
    rcases h with ⟨k, e, h⟩ | h
    · exact hD.2 k (q, e) h
    · exact hA q (Nat.le_trans hS.1 h)
  intro T hT X
  obtain ⟨v, st₀, t, T', L, h0, X', hL, e1, e2, ⟨⟨v', u, hv, hp, hP1, hK1, hD1⟩, hz, hk⟩, st⟩ := hr T hT X
  cases hv
  rw [h0] at hz hk
  obtain ⟨t2, a1, b1⟩ := kk v u hp T'.heap (locs ++ L) (by rw [e1]; exact hP1) (hD1.weaken (fun _ q _ h => hF q.1 h))
    ⟨Nat.le_trans hS.1 (by rw [e1]; exact hz), fun q h1 h2 => by rw [e1, hk q (Nat.lt_of_lt_of_le h1 hS.1) (fun z => h2 (hF q z))]; exact hS.2.1 q h1 h2, fun q hq => by
      rcases List.mem_append.mp hq with h | h
      · exact hS.2.2 q h
      · exact hF _ (hL q h)⟩ T' rfl X'
  exact ⟨t2, st t2 a1, b1⟩
variable {y : MethodName} {cc' : ByteArray} {nL' fr' lo' idx n : Nat} {ret' : Option FieldType} {rest : List Value}
theorem xf_callS (hX : xf_ok X l own cc nL fr lo wf D tys) (np : Nat) (hp : pc + 3 = np) (As : List Value) (rest : List Value) (hM : xf_M l y cc' nL' ret' fr' lo' wf D tys As σ rq) (hy : xf_sta y cc' nL' ret' n) (hl : Cond.methodLink own idx y ∈ xf_GW) (hn : As.length = n) (hst : st = As.reverse ++ rest) (hw : (rest.map fun v => v.category).sum ≤ 8) (hR : fr' + 1 ≤ fr ∧ 8 + (nL' + 11) + lo' ≤ lo) (hd : decode cc pc = .ok (.invokestatic idx, 3))
    (kk : ∀ (v : Option Value) (u : xf_S), rq v u → xf_V X np L (v.toList ++ rest) u) : xf_V X pc L st σ := by
  subst hp
  obtain ⟨p, l, e, R, s, m, args, below, meth, c, A, Q, D', tys', wf', nL0, cells, slots⟩ := X
  obtain ⟨⟨h1, h2, h3, h4, h5⟩, hx, hb, hml, hown, hts, hK, hN, hA, hR0, hc1, hc2⟩ := hX
  subst h1 h2 h3 h4 h5 hst
  obtain ⟨⟨m1, m2, m3, m4, m5⟩, m6⟩ := hy
  intro H locs ls hP hD hS hls
  have cw : CallB R s args own idx y cc' nL' ret' (.code y cc' nL' ret' :: xf_GW) { frames := fr', cells := 0, slots := 0, locals := lo' } 0 0 n :=
    callB_of n hts (xf_good m1) rfl rfl rfl (hts _ m2) (hts _ hl) ⟨m3, m4, m5⟩ (by rw [hR0.1, hR0.2]; exact hR)
  refine xf_back (rest := rest) (va_runS (nL := nL0) (Ts := xf_GW) (As := As) ⟨hx, hb, hml, hown, hts⟩ (hM H.size) ⟨cw, hts _ m6⟩ ⟨xf_blind, fun U hU hW => ⟨rfl, by rw [hU], by rw [hU]; exact hP, va_K.moved hW.alike hK, hD.weaken (fun _ _ _ _ => trivial), xf_NW_warm hW hN⟩⟩ rfl hn hls.1.1 rfl (lv_room hw) hd ⟨hc1, hc2⟩) hD hS hA (fun v u hq H1 locs1 hP1 hD1 hS1 => kk v u hq H1 locs1 ls hP1 hD1 hS1 hls)
theorem xf_callSN (hX : xf_ok X l own cc nL fr lo wf D tys) (np : Nat) (hp : pc + 3 = np) (As : List Value) (rest : List Value) (hM : xf_M l y cc' nL' ret' fr' lo' wf D tys As σ rq) (hy : xf_sta y cc' nL' ret' n) {host : String} (hl : Cond.methodLinkNest own idx y host ∈ xf_NL) (hn : As.length = n) (hst : st = As.reverse ++ rest) (hw : (rest.map fun v => v.category).sum ≤ 8) (hR : fr' + 1 ≤ fr ∧ 8 + (nL' + 11) + lo' ≤ lo) (hd : decode cc pc = .ok (.invokestatic idx, 3))
    (kk : ∀ (v : Option Value) (u : xf_S), rq v u → xf_V X np L (v.toList ++ rest) u) : xf_V X pc L st σ := by
  subst hp
  obtain ⟨p, l, e, R, s, m, args, below, meth, c, A, Q, D', tys', wf', nL0, cells, slots⟩ := X
  obtain ⟨⟨h1, h2, h3, h4, h5⟩, hx, hb, hml, hown, hts, hK, hN, hA, hR0, hc1, hc2⟩ := hX
  subst h1 h2 h3 h4 h5 hst
  obtain ⟨⟨m1, m2, m3, m4, m5⟩, m6⟩ := hy
  intro H locs ls hP hD hS hls
  have cw : va_CN R s args own idx y host cc' nL' ret' (.code y cc' nL' ret' :: xf_GW) { frames := fr', cells := 0, slots := 0, locals := lo' } 0 0 n :=
    va_cnB n hts (xf_good m1) rfl rfl rfl (hN _ hl) (hts _ m2) ⟨m3, m4, m5⟩ (by rw [hR0.1, hR0.2]; exact hR)
  refine xf_back (rest := rest) (va_runSN (nL := nL0) (Ts := xf_GW) (As := As) ⟨hx, hb, hml, hown, hts⟩ (hM H.size) ⟨cw, hts _ m6, trivial⟩ ⟨xf_blind, fun U hU hW => ⟨rfl, by rw [hU], by rw [hU]; exact hP, va_K.moved hW.alike hK, hD.weaken (fun _ _ _ _ => trivial), xf_NW_warm hW hN⟩⟩ rfl hn hls.1.1 rfl (lv_room hw) hd ⟨hc1, hc2⟩) hD hS hA (fun v u hq H1 locs1 hP1 hD1 hS1 => kk v u hq H1 locs1 ls hP1 hD1 hS1 hls)
theorem xf_callV (hX : xf_ok X l own cc nL fr lo wf D tys) (np : Nat) (hp : pc + 3 = np) {b : Nat} (As : List Value) (rest : List Value) (hM : xf_M l y cc' nL' ret' fr' lo' wf D tys (.ref b :: As) σ rq) (hy : xf_vir y cc' nL' ret' n) (hl : Cond.methodLink own idx y ∈ xf_GW) (q0 ci : Nat) {fs : List Value} {r : vw_C} (he : (wf σ)[q0]? = some (b, .inr (ci, fs))) (hc : vwCl[ci]? = some r) (hcy : r.1 = y.cls) (hn : As.length = n) (hst : st = As.reverse ++ .ref b :: rest) (hw : (rest.map fun v => v.category).sum ≤ 8) (hR : fr' + 1 ≤ fr ∧ 8 + (nL' + 11) + lo' ≤ lo) (hd : decode cc pc = .ok (.invokevirtual idx, 3))
    (kk : ∀ (v : Option Value) (u : xf_S), rq v u → xf_V X np L (v.toList ++ rest) u) : xf_V X pc L st σ := by
  subst hp
  obtain ⟨p, l, e, R, s, m, args, below, meth, c, A, Q, D', tys', wf', nL0, cells, slots⟩ := X
  obtain ⟨⟨h1, h2, h3, h4, h5⟩, hx, hb, hml, hown, hts, hK, hN, hA, hR0, hc1, hc2⟩ := hX
  subst h1 h2 h3 h4 h5 hst
  obtain ⟨⟨m1, m2, m3, m4, m5⟩, m6, m7⟩ := hy
  intro H locs ls hP hD hS hls
  have cw : CallB R s args own idx y cc' nL' ret' (.code y cc' nL' ret' :: xf_GW) { frames := fr', cells := 0, slots := 0, locals := lo' } 0 0 n :=
    callB_of n hts (xf_good m1) rfl rfl rfl (hts _ m2) (hts _ hl) ⟨m3, m4, m5⟩ (by rw [hR0.1, hR0.2]; exact hR)
  have hrc := va_recv hK hP hc he
  rw [hcy] at hrc
  refine xf_back (rest := rest) (va_runV (nL := nL0) (Ts := xf_GW) (C := y.cls) (b := b) (As := As) ⟨hx, hb, hml, hown, hts⟩ (hM H.size) ⟨cw, hts _ m6, hts _ m7⟩ ⟨xf_blind, hrc, fun U hU hW => ⟨rfl, by rw [hU], by rw [hU]; exact hP, va_K.moved hW.alike hK, hD.weaken (fun _ _ _ _ => trivial), xf_NW_warm hW hN⟩⟩ rfl hn hls.1.1 rfl (lv_room hw) hd ⟨hc1, hc2⟩) hD hS hA (fun v u hq H1 locs1 hP1 hD1 hS1 => kk v u hq H1 locs1 ls hP1 hD1 hS1 hls)
theorem xf_callVN (hX : xf_ok X l own cc nL fr lo wf D tys) (np : Nat) (hp : pc + 3 = np) {b : Nat} (As : List Value) (rest : List Value) (hM : xf_M l y cc' nL' ret' fr' lo' wf D tys (.ref b :: As) σ rq) (hy : xf_vir y cc' nL' ret' n) {host : String} (hl : Cond.methodLinkNest own idx y host ∈ xf_NL) (q0 ci : Nat) {fs : List Value} {r : vw_C} (he : (wf σ)[q0]? = some (b, .inr (ci, fs))) (hc : vwCl[ci]? = some r) (hcy : r.1 = y.cls) (hn : As.length = n) (hst : st = As.reverse ++ .ref b :: rest) (hw : (rest.map fun v => v.category).sum ≤ 8) (hR : fr' + 1 ≤ fr ∧ 8 + (nL' + 11) + lo' ≤ lo) (hd : decode cc pc = .ok (.invokevirtual idx, 3))
    (kk : ∀ (v : Option Value) (u : xf_S), rq v u → xf_V X np L (v.toList ++ rest) u) : xf_V X pc L st σ := by
  subst hp
  obtain ⟨p, l, e, R, s, m, args, below, meth, c, A, Q, D', tys', wf', nL0, cells, slots⟩ := X
  obtain ⟨⟨h1, h2, h3, h4, h5⟩, hx, hb, hml, hown, hts, hK, hN, hA, hR0, hc1, hc2⟩ := hX
  subst h1 h2 h3 h4 h5 hst
  obtain ⟨⟨m1, m2, m3, m4, m5⟩, m6, m7⟩ := hy
  intro H locs ls hP hD hS hls
  have cw : va_CN R s args own idx y host cc' nL' ret' (.code y cc' nL' ret' :: xf_GW) { frames := fr', cells := 0, slots := 0, locals := lo' } 0 0 n :=
    va_cnB n hts (xf_good m1) rfl rfl rfl (hN _ hl) (hts _ m2) ⟨m3, m4, m5⟩ (by rw [hR0.1, hR0.2]; exact hR)
  have hrc := va_recv hK hP hc he
  rw [hcy] at hrc
  refine xf_back (rest := rest) (va_runVN (nL := nL0) (Ts := xf_GW) (C := y.cls) (b := b) (As := As) ⟨hx, hb, hml, hown, hts⟩ (hM H.size) ⟨cw, hts _ m6, hts _ m7⟩ ⟨xf_blind, hrc, fun U hU hW => ⟨rfl, by rw [hU], by rw [hU]; exact hP, va_K.moved hW.alike hK, hD.weaken (fun _ _ _ _ => trivial), xf_NW_warm hW hN⟩⟩ rfl hn hls.1.1 rfl (lv_room hw) hd ⟨hc1, hc2⟩) hD hS hA (fun v u hq H1 locs1 hP1 hD1 hS1 => kk v u hq H1 locs1 ls hP1 hD1 hS1 hls)
end XFR
end
section
def xf_rcv (wf : xf_S → va_W) (σ : xf_S) (b : Nat) (C : String) : Prop := ∃ (q0 ci : Nat) (fs : List Value) (r : vw_C), (wf σ)[q0]? = some (b, .inr (ci, fs)) ∧ vwCl[ci]? = some r ∧ r.1 = C
section XFW
variable {X : xf_C} {l : Launch} {own : String} {cc : ByteArray} {nL fr lo : Nat} {wf : xf_S → va_W} {D : va_G} {tys : List (ClassId × FieldType)} {pc : Nat} {L : List (Option Value)} {st : List Value} {σ : xf_S}
variable {r : Int32} {σ' : xf_S} {y : MethodName} {cc' : ByteArray} {nL' fr' lo' idx : Nat} {ret' : Option FieldType} {rest : List Value} {rq : Option Value → xf_S → Prop} {b : Nat}
theorem xf_ble {a b c d : Nat} (h : (Nat.ble a b && Nat.ble c d) = true) : a ≤ b ∧ c ≤ d := by
  rw [Bool.and_eq_true] at h
  exact ⟨Nat.le_of_ble_eq_true h.1, Nat.le_of_ble_eq_true h.2⟩
theorem xf_S0i (hX : xf_ok X l own cc nL fr lo wf D tys) (np : Nat) (hp : pc + 3 = np) (hM : xf_F l y cc' nL' ret' fr' lo' wf D tys [] σ (some (.int r)) σ') (hy : xf_sta y cc' nL' ret' 0) (hl : Cond.methodLink own idx y ∈ xf_GW) (hw : Nat.ble ((rest.map fun v => v.category).sum) 8 = true) (hR : (Nat.ble (fr' + 1) fr && Nat.ble (8 + (nL' + 11) + lo') lo) = true) (hd : decode cc pc = .ok (.invokestatic idx, 3)) (kk : xf_V X np L (.int r :: rest) σ') : xf_V X pc L rest σ := by
  exact xf_callS hX np hp [] rest hM hy hl rfl rfl (Nat.le_of_ble_eq_true hw) (xf_ble hR) hd (fun v u h => by obtain ⟨rfl, rfl⟩ := h; exact kk)
theorem xf_S0v (hX : xf_ok X l own cc nL fr lo wf D tys) (np : Nat) (hp : pc + 3 = np) (hM : xf_F l y cc' nL' ret' fr' lo' wf D tys [] σ none σ') (hy : xf_sta y cc' nL' ret' 0) (hl : Cond.methodLink own idx y ∈ xf_GW) (hw : Nat.ble ((rest.map fun v => v.category).sum) 8 = true) (hR : (Nat.ble (fr' + 1) fr && Nat.ble (8 + (nL' + 11) + lo') lo) = true) (hd : decode cc pc = .ok (.invokestatic idx, 3)) (kk : xf_V X np L rest σ') : xf_V X pc L rest σ := by
  exact xf_callS hX np hp [] rest hM hy hl rfl rfl (Nat.le_of_ble_eq_true hw) (xf_ble hR) hd (fun v u h => by obtain ⟨rfl, rfl⟩ := h; exact kk)
theorem xf_S0r (hX : xf_ok X l own cc nL fr lo wf D tys) (np : Nat) (hp : pc + 3 = np) (hM : xf_M l y cc' nL' ret' fr' lo' wf D tys [] σ rq) (hy : xf_sta y cc' nL' ret' 0) (hl : Cond.methodLink own idx y ∈ xf_GW) (hw : Nat.ble ((rest.map fun v => v.category).sum) 8 = true) (hR : (Nat.ble (fr' + 1) fr && Nat.ble (8 + (nL' + 11) + lo') lo) = true) (hd : decode cc pc = .ok (.invokestatic idx, 3)) (kk : ∀ (v : Option Value) (u : xf_S), rq v u → xf_V X np L (v.toList ++ rest) u) : xf_V X pc L rest σ := by
  exact xf_callS hX np hp [] rest hM hy hl rfl rfl (Nat.le_of_ble_eq_true hw) (xf_ble hR) hd kk
theorem xf_T0i (hX : xf_ok X l own cc nL fr lo wf D tys) (np : Nat) (hp : pc + 3 = np) (hM : xf_F l y cc' nL' ret' fr' lo' wf D tys [] σ (some (.int r)) σ') (hy : xf_sta y cc' nL' ret' 0) {host : String} (hl : Cond.methodLinkNest own idx y host ∈ xf_NL) (hw : Nat.ble ((rest.map fun v => v.category).sum) 8 = true) (hR : (Nat.ble (fr' + 1) fr && Nat.ble (8 + (nL' + 11) + lo') lo) = true) (hd : decode cc pc = .ok (.invokestatic idx, 3)) (kk : xf_V X np L (.int r :: rest) σ') : xf_V X pc L rest σ := by
  exact xf_callSN hX np hp [] rest hM hy hl rfl rfl (Nat.le_of_ble_eq_true hw) (xf_ble hR) hd (fun v u h => by obtain ⟨rfl, rfl⟩ := h; exact kk)
theorem xf_T0v (hX : xf_ok X l own cc nL fr lo wf D tys) (np : Nat) (hp : pc + 3 = np) (hM : xf_F l y cc' nL' ret' fr' lo' wf D tys [] σ none σ') (hy : xf_sta y cc' nL' ret' 0) {host : String} (hl : Cond.methodLinkNest own idx y host ∈ xf_NL) (hw : Nat.ble ((rest.map fun v => v.category).sum) 8 = true) (hR : (Nat.ble (fr' + 1) fr && Nat.ble (8 + (nL' + 11) + lo') lo) = true) (hd : decode cc pc = .ok (.invokestatic idx, 3)) (kk : xf_V X np L rest σ') : xf_V X pc L rest σ := by
  exact xf_callSN hX np hp [] rest hM hy hl rfl rfl (Nat.le_of_ble_eq_true hw) (xf_ble hR) hd (fun v u h => by obtain ⟨rfl, rfl⟩ := h; exact kk)
theorem xf_T0r (hX : xf_ok X l own cc nL fr lo wf D tys) (np : Nat) (hp : pc + 3 = np) (hM : xf_M l y cc' nL' ret' fr' lo' wf D tys [] σ rq) (hy : xf_sta y cc' nL' ret' 0) {host : String} (hl : Cond.methodLinkNest own idx y host ∈ xf_NL) (hw : Nat.ble ((rest.map fun v => v.category).sum) 8 = true) (hR : (Nat.ble (fr' + 1) fr && Nat.ble (8 + (nL' + 11) + lo') lo) = true) (hd : decode cc pc = .ok (.invokestatic idx, 3)) (kk : ∀ (v : Option Value) (u : xf_S), rq v u → xf_V X np L (v.toList ++ rest) u) : xf_V X pc L rest σ := by
  exact xf_callSN hX np hp [] rest hM hy hl rfl rfl (Nat.le_of_ble_eq_true hw) (xf_ble hR) hd kk
theorem xf_V0i (hX : xf_ok X l own cc nL fr lo wf D tys) (np : Nat) (hp : pc + 3 = np) (hM : xf_F l y cc' nL' ret' fr' lo' wf D tys [.ref b] σ (some (.int r)) σ') (hy : xf_vir y cc' nL' ret' 0) (hl : Cond.methodLink own idx y ∈ xf_GW) (hrc : xf_rcv wf σ b y.cls) (hw : Nat.ble ((rest.map fun v => v.category).sum) 8 = true) (hR : (Nat.ble (fr' + 1) fr && Nat.ble (8 + (nL' + 11) + lo') lo) = true) (hd : decode cc pc = .ok (.invokevirtual idx, 3)) (kk : xf_V X np L (.int r :: rest) σ') : xf_V X pc L (.ref b :: rest) σ := by
  obtain ⟨q0, ci, fs, r0, e1, e2, e3⟩ := hrc
  exact xf_callV hX np hp [] rest hM hy hl q0 ci e1 e2 e3 rfl rfl (Nat.le_of_ble_eq_true hw) (xf_ble hR) hd (fun v u h => by obtain ⟨rfl, rfl⟩ := h; exact kk)
theorem xf_V0v (hX : xf_ok X l own cc nL fr lo wf D tys) (np : Nat) (hp : pc + 3 = np) (hM : xf_F l y cc' nL' ret' fr' lo' wf D tys [.ref b] σ none σ') (hy : xf_vir y cc' nL' ret' 0) (hl : Cond.methodLink own idx y ∈ xf_GW) (hrc : xf_rcv wf σ b y.cls) (hw : Nat.ble ((rest.map fun v => v.category).sum) 8 = true) (hR : (Nat.ble (fr' + 1) fr && Nat.ble (8 + (nL' + 11) + lo') lo) = true) (hd : decode cc pc = .ok (.invokevirtual idx, 3)) (kk : xf_V X np L rest σ') : xf_V X pc L (.ref b :: rest) σ := by
  obtain ⟨q0, ci, fs, r0, e1, e2, e3⟩ := hrc
  exact xf_callV hX np hp [] rest hM hy hl q0 ci e1 e2 e3 rfl rfl (Nat.le_of_ble_eq_true hw) (xf_ble hR) hd (fun v u h => by obtain ⟨rfl, rfl⟩ := h; exact kk)
theorem xf_V0r (hX : xf_ok X l own cc nL fr lo wf D tys) (np : Nat) (hp : pc + 3 = np) (hM : xf_M l y cc' nL' ret' fr' lo' wf D tys [.ref b] σ rq) (hy : xf_vir y cc' nL' ret' 0) (hl : Cond.methodLink own idx y ∈ xf_GW) (hrc : xf_rcv wf σ b y.cls) (hw : Nat.ble ((rest.map fun v => v.category).sum) 8 = true) (hR : (Nat.ble (fr' + 1) fr && Nat.ble (8 + (nL' + 11) + lo') lo) = true) (hd : decode cc pc = .ok (.invokevirtual idx, 3)) (kk : ∀ (v : Option Value) (u : xf_S), rq v u → xf_V X np L (v.toList ++ rest) u) : xf_V X pc L (.ref b :: rest) σ := by
  obtain ⟨q0, ci, fs, r0, e1, e2, e3⟩ := hrc
  exact xf_callV hX np hp [] rest hM hy hl q0 ci e1 e2 e3 rfl rfl (Nat.le_of_ble_eq_true hw) (xf_ble hR) hd kk
theorem xf_U0i (hX : xf_ok X l own cc nL fr lo wf D tys) (np : Nat) (hp : pc + 3 = np) (hM : xf_F l y cc' nL' ret' fr' lo' wf D tys [.ref b] σ (some (.int r)) σ') (hy : xf_vir y cc' nL' ret' 0) {host : String} (hl : Cond.methodLinkNest own idx y host ∈ xf_NL) (hrc : xf_rcv wf σ b y.cls) (hw : Nat.ble ((rest.map fun v => v.category).sum) 8 = true) (hR : (Nat.ble (fr' + 1) fr && Nat.ble (8 + (nL' + 11) + lo') lo) = true) (hd : decode cc pc = .ok (.invokevirtual idx, 3)) (kk : xf_V X np L (.int r :: rest) σ') : xf_V X pc L (.ref b :: rest) σ := by
  obtain ⟨q0, ci, fs, r0, e1, e2, e3⟩ := hrc
  exact xf_callVN hX np hp [] rest hM hy hl q0 ci e1 e2 e3 rfl rfl (Nat.le_of_ble_eq_true hw) (xf_ble hR) hd (fun v u h => by obtain ⟨rfl, rfl⟩ := h; exact kk)
theorem xf_U0v (hX : xf_ok X l own cc nL fr lo wf D tys) (np : Nat) (hp : pc + 3 = np) (hM : xf_F l y cc' nL' ret' fr' lo' wf D tys [.ref b] σ none σ') (hy : xf_vir y cc' nL' ret' 0) {host : String} (hl : Cond.methodLinkNest own idx y host ∈ xf_NL) (hrc : xf_rcv wf σ b y.cls) (hw : Nat.ble ((rest.map fun v => v.category).sum) 8 = true) (hR : (Nat.ble (fr' + 1) fr && Nat.ble (8 + (nL' + 11) + lo') lo) = true) (hd : decode cc pc = .ok (.invokevirtual idx, 3)) (kk : xf_V X np L rest σ') : xf_V X pc L (.ref b :: rest) σ := by
  obtain ⟨q0, ci, fs, r0, e1, e2, e3⟩ := hrc
  exact xf_callVN hX np hp [] rest hM hy hl q0 ci e1 e2 e3 rfl rfl (Nat.le_of_ble_eq_true hw) (xf_ble hR) hd (fun v u h => by obtain ⟨rfl, rfl⟩ := h; exact kk)
theorem xf_U0r (hX : xf_ok X l own cc nL fr lo wf D tys) (np : Nat) (hp : pc + 3 = np) (hM : xf_M l y cc' nL' ret' fr' lo' wf D tys [.ref b] σ rq) (hy : xf_vir y cc' nL' ret' 0) {host : String} (hl : Cond.methodLinkNest own idx y host ∈ xf_NL) (hrc : xf_rcv wf σ b y.cls) (hw : Nat.ble ((rest.map fun v => v.category).sum) 8 = true) (hR : (Nat.ble (fr' + 1) fr && Nat.ble (8 + (nL' + 11) + lo') lo) = true) (hd : decode cc pc = .ok (.invokevirtual idx, 3)) (kk : ∀ (v : Option Value) (u : xf_S), rq v u → xf_V X np L (v.toList ++ rest) u) : xf_V X pc L (.ref b :: rest) σ := by
  obtain ⟨q0, ci, fs, r0, e1, e2, e3⟩ := hrc
  exact xf_callVN hX np hp [] rest hM hy hl q0 ci e1 e2 e3 rfl rfl (Nat.le_of_ble_eq_true hw) (xf_ble hR) hd kk
theorem xf_S1i (hX : xf_ok X l own cc nL fr lo wf D tys) (np : Nat) (hp : pc + 3 = np) {v1 : Value} (hM : xf_F l y cc' nL' ret' fr' lo' wf D tys [v1] σ (some (.int r)) σ') (hy : xf_sta y cc' nL' ret' 1) (hl : Cond.methodLink own idx y ∈ xf_GW) (hw : Nat.ble ((rest.map fun v => v.category).sum) 8 = true) (hR : (Nat.ble (fr' + 1) fr && Nat.ble (8 + (nL' + 11) + lo') lo) = true) (hd : decode cc pc = .ok (.invokestatic idx, 3)) (kk : xf_V X np L (.int r :: rest) σ') : xf_V X pc L (v1 :: rest) σ := by
  exact xf_callS hX np hp [v1] rest hM hy hl rfl rfl (Nat.le_of_ble_eq_true hw) (xf_ble hR) hd (fun v u h => by obtain ⟨rfl, rfl⟩ := h; exact kk)
theorem xf_S1v (hX : xf_ok X l own cc nL fr lo wf D tys) (np : Nat) (hp : pc + 3 = np) {v1 : Value} (hM : xf_F l y cc' nL' ret' fr' lo' wf D tys [v1] σ none σ') (hy : xf_sta y cc' nL' ret' 1) (hl : Cond.methodLink own idx y ∈ xf_GW) (hw : Nat.ble ((rest.map fun v => v.category).sum) 8 = true) (hR : (Nat.ble (fr' + 1) fr && Nat.ble (8 + (nL' + 11) + lo') lo) = true) (hd : decode cc pc = .ok (.invokestatic idx, 3)) (kk : xf_V X np L rest σ') : xf_V X pc L (v1 :: rest) σ := by
  exact xf_callS hX np hp [v1] rest hM hy hl rfl rfl (Nat.le_of_ble_eq_true hw) (xf_ble hR) hd (fun v u h => by obtain ⟨rfl, rfl⟩ := h; exact kk)
theorem xf_S1r (hX : xf_ok X l own cc nL fr lo wf D tys) (np : Nat) (hp : pc + 3 = np) {v1 : Value} (hM : xf_M l y cc' nL' ret' fr' lo' wf D tys [v1] σ rq) (hy : xf_sta y cc' nL' ret' 1) (hl : Cond.methodLink own idx y ∈ xf_GW) (hw : Nat.ble ((rest.map fun v => v.category).sum) 8 = true) (hR : (Nat.ble (fr' + 1) fr && Nat.ble (8 + (nL' + 11) + lo') lo) = true) (hd : decode cc pc = .ok (.invokestatic idx, 3)) (kk : ∀ (v : Option Value) (u : xf_S), rq v u → xf_V X np L (v.toList ++ rest) u) : xf_V X pc L (v1 :: rest) σ := by
  exact xf_callS hX np hp [v1] rest hM hy hl rfl rfl (Nat.le_of_ble_eq_true hw) (xf_ble hR) hd kk
theorem xf_T1i (hX : xf_ok X l own cc nL fr lo wf D tys) (np : Nat) (hp : pc + 3 = np) {v1 : Value} (hM : xf_F l y cc' nL' ret' fr' lo' wf D tys [v1] σ (some (.int r)) σ') (hy : xf_sta y cc' nL' ret' 1) {host : String} (hl : Cond.methodLinkNest own idx y host ∈ xf_NL) (hw : Nat.ble ((rest.map fun v => v.category).sum) 8 = true) (hR : (Nat.ble (fr' + 1) fr && Nat.ble (8 + (nL' + 11) + lo') lo) = true) (hd : decode cc pc = .ok (.invokestatic idx, 3)) (kk : xf_V X np L (.int r :: rest) σ') : xf_V X pc L (v1 :: rest) σ := by
  exact xf_callSN hX np hp [v1] rest hM hy hl rfl rfl (Nat.le_of_ble_eq_true hw) (xf_ble hR) hd (fun v u h => by obtain ⟨rfl, rfl⟩ := h; exact kk)
theorem xf_T1v (hX : xf_ok X l own cc nL fr lo wf D tys) (np : Nat) (hp : pc + 3 = np) {v1 : Value} (hM : xf_F l y cc' nL' ret' fr' lo' wf D tys [v1] σ none σ') (hy : xf_sta y cc' nL' ret' 1) {host : String} (hl : Cond.methodLinkNest own idx y host ∈ xf_NL) (hw : Nat.ble ((rest.map fun v => v.category).sum) 8 = true) (hR : (Nat.ble (fr' + 1) fr && Nat.ble (8 + (nL' + 11) + lo') lo) = true) (hd : decode cc pc = .ok (.invokestatic idx, 3)) (kk : xf_V X np L rest σ') : xf_V X pc L (v1 :: rest) σ := by
  exact xf_callSN hX np hp [v1] rest hM hy hl rfl rfl (Nat.le_of_ble_eq_true hw) (xf_ble hR) hd (fun v u h => by obtain ⟨rfl, rfl⟩ := h; exact kk)
theorem xf_T1r (hX : xf_ok X l own cc nL fr lo wf D tys) (np : Nat) (hp : pc + 3 = np) {v1 : Value} (hM : xf_M l y cc' nL' ret' fr' lo' wf D tys [v1] σ rq) (hy : xf_sta y cc' nL' ret' 1) {host : String} (hl : Cond.methodLinkNest own idx y host ∈ xf_NL) (hw : Nat.ble ((rest.map fun v => v.category).sum) 8 = true) (hR : (Nat.ble (fr' + 1) fr && Nat.ble (8 + (nL' + 11) + lo') lo) = true) (hd : decode cc pc = .ok (.invokestatic idx, 3)) (kk : ∀ (v : Option Value) (u : xf_S), rq v u → xf_V X np L (v.toList ++ rest) u) : xf_V X pc L (v1 :: rest) σ := by
  exact xf_callSN hX np hp [v1] rest hM hy hl rfl rfl (Nat.le_of_ble_eq_true hw) (xf_ble hR) hd kk
theorem xf_V1i (hX : xf_ok X l own cc nL fr lo wf D tys) (np : Nat) (hp : pc + 3 = np) {v1 : Value} (hM : xf_F l y cc' nL' ret' fr' lo' wf D tys [.ref b, v1] σ (some (.int r)) σ') (hy : xf_vir y cc' nL' ret' 1) (hl : Cond.methodLink own idx y ∈ xf_GW) (hrc : xf_rcv wf σ b y.cls) (hw : Nat.ble ((rest.map fun v => v.category).sum) 8 = true) (hR : (Nat.ble (fr' + 1) fr && Nat.ble (8 + (nL' + 11) + lo') lo) = true) (hd : decode cc pc = .ok (.invokevirtual idx, 3)) (kk : xf_V X np L (.int r :: rest) σ') : xf_V X pc L (v1 :: .ref b :: rest) σ := by
  obtain ⟨q0, ci, fs, r0, e1, e2, e3⟩ := hrc
  exact xf_callV hX np hp [v1] rest hM hy hl q0 ci e1 e2 e3 rfl rfl (Nat.le_of_ble_eq_true hw) (xf_ble hR) hd (fun v u h => by obtain ⟨rfl, rfl⟩ := h; exact kk)
theorem xf_V1v (hX : xf_ok X l own cc nL fr lo wf D tys) (np : Nat) (hp : pc + 3 = np) {v1 : Value} (hM : xf_F l y cc' nL' ret' fr' lo' wf D tys [.ref b, v1] σ none σ') (hy : xf_vir y cc' nL' ret' 1) (hl : Cond.methodLink own idx y ∈ xf_GW) (hrc : xf_rcv wf σ b y.cls) (hw : Nat.ble ((rest.map fun v => v.category).sum) 8 = true) (hR : (Nat.ble (fr' + 1) fr && Nat.ble (8 + (nL' + 11) + lo') lo) = true) (hd : decode cc pc = .ok (.invokevirtual idx, 3)) (kk : xf_V X np L rest σ') : xf_V X pc L (v1 :: .ref b :: rest) σ := by
  obtain ⟨q0, ci, fs, r0, e1, e2, e3⟩ := hrc
  exact xf_callV hX np hp [v1] rest hM hy hl q0 ci e1 e2 e3 rfl rfl (Nat.le_of_ble_eq_true hw) (xf_ble hR) hd (fun v u h => by obtain ⟨rfl, rfl⟩ := h; exact kk)
theorem xf_V1r (hX : xf_ok X l own cc nL fr lo wf D tys) (np : Nat) (hp : pc + 3 = np) {v1 : Value} (hM : xf_M l y cc' nL' ret' fr' lo' wf D tys [.ref b, v1] σ rq) (hy : xf_vir y cc' nL' ret' 1) (hl : Cond.methodLink own idx y ∈ xf_GW) (hrc : xf_rcv wf σ b y.cls) (hw : Nat.ble ((rest.map fun v => v.category).sum) 8 = true) (hR : (Nat.ble (fr' + 1) fr && Nat.ble (8 + (nL' + 11) + lo') lo) = true) (hd : decode cc pc = .ok (.invokevirtual idx, 3)) (kk : ∀ (v : Option Value) (u : xf_S), rq v u → xf_V X np L (v.toList ++ rest) u) : xf_V X pc L (v1 :: .ref b :: rest) σ := by
  obtain ⟨q0, ci, fs, r0, e1, e2, e3⟩ := hrc
  exact xf_callV hX np hp [v1] rest hM hy hl q0 ci e1 e2 e3 rfl rfl (Nat.le_of_ble_eq_true hw) (xf_ble hR) hd kk
theorem xf_U1i (hX : xf_ok X l own cc nL fr lo wf D tys) (np : Nat) (hp : pc + 3 = np) {v1 : Value} (hM : xf_F l y cc' nL' ret' fr' lo' wf D tys [.ref b, v1] σ (some (.int r)) σ') (hy : xf_vir y cc' nL' ret' 1) {host : String} (hl : Cond.methodLinkNest own idx y host ∈ xf_NL) (hrc : xf_rcv wf σ b y.cls) (hw : Nat.ble ((rest.map fun v => v.category).sum) 8 = true) (hR : (Nat.ble (fr' + 1) fr && Nat.ble (8 + (nL' + 11) + lo') lo) = true) (hd : decode cc pc = .ok (.invokevirtual idx, 3)) (kk : xf_V X np L (.int r :: rest) σ') : xf_V X pc L (v1 :: .ref b :: rest) σ := by
  obtain ⟨q0, ci, fs, r0, e1, e2, e3⟩ := hrc
  exact xf_callVN hX np hp [v1] rest hM hy hl q0 ci e1 e2 e3 rfl rfl (Nat.le_of_ble_eq_true hw) (xf_ble hR) hd (fun v u h => by obtain ⟨rfl, rfl⟩ := h; exact kk)
theorem xf_U1v (hX : xf_ok X l own cc nL fr lo wf D tys) (np : Nat) (hp : pc + 3 = np) {v1 : Value} (hM : xf_F l y cc' nL' ret' fr' lo' wf D tys [.ref b, v1] σ none σ') (hy : xf_vir y cc' nL' ret' 1) {host : String} (hl : Cond.methodLinkNest own idx y host ∈ xf_NL) (hrc : xf_rcv wf σ b y.cls) (hw : Nat.ble ((rest.map fun v => v.category).sum) 8 = true) (hR : (Nat.ble (fr' + 1) fr && Nat.ble (8 + (nL' + 11) + lo') lo) = true) (hd : decode cc pc = .ok (.invokevirtual idx, 3)) (kk : xf_V X np L rest σ') : xf_V X pc L (v1 :: .ref b :: rest) σ := by
  obtain ⟨q0, ci, fs, r0, e1, e2, e3⟩ := hrc
  exact xf_callVN hX np hp [v1] rest hM hy hl q0 ci e1 e2 e3 rfl rfl (Nat.le_of_ble_eq_true hw) (xf_ble hR) hd (fun v u h => by obtain ⟨rfl, rfl⟩ := h; exact kk)
theorem xf_U1r (hX : xf_ok X l own cc nL fr lo wf D tys) (np : Nat) (hp : pc + 3 = np) {v1 : Value} (hM : xf_M l y cc' nL' ret' fr' lo' wf D tys [.ref b, v1] σ rq) (hy : xf_vir y cc' nL' ret' 1) {host : String} (hl : Cond.methodLinkNest own idx y host ∈ xf_NL) (hrc : xf_rcv wf σ b y.cls) (hw : Nat.ble ((rest.map fun v => v.category).sum) 8 = true) (hR : (Nat.ble (fr' + 1) fr && Nat.ble (8 + (nL' + 11) + lo') lo) = true) (hd : decode cc pc = .ok (.invokevirtual idx, 3)) (kk : ∀ (v : Option Value) (u : xf_S), rq v u → xf_V X np L (v.toList ++ rest) u) : xf_V X pc L (v1 :: .ref b :: rest) σ := by
  obtain ⟨q0, ci, fs, r0, e1, e2, e3⟩ := hrc
  exact xf_callVN hX np hp [v1] rest hM hy hl q0 ci e1 e2 e3 rfl rfl (Nat.le_of_ble_eq_true hw) (xf_ble hR) hd kk
theorem xf_S2i (hX : xf_ok X l own cc nL fr lo wf D tys) (np : Nat) (hp : pc + 3 = np) {v1 v2 : Value} (hM : xf_F l y cc' nL' ret' fr' lo' wf D tys [v1, v2] σ (some (.int r)) σ') (hy : xf_sta y cc' nL' ret' 2) (hl : Cond.methodLink own idx y ∈ xf_GW) (hw : Nat.ble ((rest.map fun v => v.category).sum) 8 = true) (hR : (Nat.ble (fr' + 1) fr && Nat.ble (8 + (nL' + 11) + lo') lo) = true) (hd : decode cc pc = .ok (.invokestatic idx, 3)) (kk : xf_V X np L (.int r :: rest) σ') : xf_V X pc L (v2 :: v1 :: rest) σ := by
  exact xf_callS hX np hp [v1, v2] rest hM hy hl rfl rfl (Nat.le_of_ble_eq_true hw) (xf_ble hR) hd (fun v u h => by obtain ⟨rfl, rfl⟩ := h; exact kk)
theorem xf_S2v (hX : xf_ok X l own cc nL fr lo wf D tys) (np : Nat) (hp : pc + 3 = np) {v1 v2 : Value} (hM : xf_F l y cc' nL' ret' fr' lo' wf D tys [v1, v2] σ none σ') (hy : xf_sta y cc' nL' ret' 2) (hl : Cond.methodLink own idx y ∈ xf_GW) (hw : Nat.ble ((rest.map fun v => v.category).sum) 8 = true) (hR : (Nat.ble (fr' + 1) fr && Nat.ble (8 + (nL' + 11) + lo') lo) = true) (hd : decode cc pc = .ok (.invokestatic idx, 3)) (kk : xf_V X np L rest σ') : xf_V X pc L (v2 :: v1 :: rest) σ := by
  exact xf_callS hX np hp [v1, v2] rest hM hy hl rfl rfl (Nat.le_of_ble_eq_true hw) (xf_ble hR) hd (fun v u h => by obtain ⟨rfl, rfl⟩ := h; exact kk)
theorem xf_S2r (hX : xf_ok X l own cc nL fr lo wf D tys) (np : Nat) (hp : pc + 3 = np) {v1 v2 : Value} (hM : xf_M l y cc' nL' ret' fr' lo' wf D tys [v1, v2] σ rq) (hy : xf_sta y cc' nL' ret' 2) (hl : Cond.methodLink own idx y ∈ xf_GW) (hw : Nat.ble ((rest.map fun v => v.category).sum) 8 = true) (hR : (Nat.ble (fr' + 1) fr && Nat.ble (8 + (nL' + 11) + lo') lo) = true) (hd : decode cc pc = .ok (.invokestatic idx, 3)) (kk : ∀ (v : Option Value) (u : xf_S), rq v u → xf_V X np L (v.toList ++ rest) u) : xf_V X pc L (v2 :: v1 :: rest) σ := by
  exact xf_callS hX np hp [v1, v2] rest hM hy hl rfl rfl (Nat.le_of_ble_eq_true hw) (xf_ble hR) hd kk
theorem xf_T2i (hX : xf_ok X l own cc nL fr lo wf D tys) (np : Nat) (hp : pc + 3 = np) {v1 v2 : Value} (hM : xf_F l y cc' nL' ret' fr' lo' wf D tys [v1, v2] σ (some (.int r)) σ') (hy : xf_sta y cc' nL' ret' 2) {host : String} (hl : Cond.methodLinkNest own idx y host ∈ xf_NL) (hw : Nat.ble ((rest.map fun v => v.category).sum) 8 = true) (hR : (Nat.ble (fr' + 1) fr && Nat.ble (8 + (nL' + 11) + lo') lo) = true) (hd : decode cc pc = .ok (.invokestatic idx, 3)) (kk : xf_V X np L (.int r :: rest) σ') : xf_V X pc L (v2 :: v1 :: rest) σ := by
  exact xf_callSN hX np hp [v1, v2] rest hM hy hl rfl rfl (Nat.le_of_ble_eq_true hw) (xf_ble hR) hd (fun v u h => by obtain ⟨rfl, rfl⟩ := h; exact kk)
theorem xf_T2v (hX : xf_ok X l own cc nL fr lo wf D tys) (np : Nat) (hp : pc + 3 = np) {v1 v2 : Value} (hM : xf_F l y cc' nL' ret' fr' lo' wf D tys [v1, v2] σ none σ') (hy : xf_sta y cc' nL' ret' 2) {host : String} (hl : Cond.methodLinkNest own idx y host ∈ xf_NL) (hw : Nat.ble ((rest.map fun v => v.category).sum) 8 = true) (hR : (Nat.ble (fr' + 1) fr && Nat.ble (8 + (nL' + 11) + lo') lo) = true) (hd : decode cc pc = .ok (.invokestatic idx, 3)) (kk : xf_V X np L rest σ') : xf_V X pc L (v2 :: v1 :: rest) σ := by
  exact xf_callSN hX np hp [v1, v2] rest hM hy hl rfl rfl (Nat.le_of_ble_eq_true hw) (xf_ble hR) hd (fun v u h => by obtain ⟨rfl, rfl⟩ := h; exact kk)
theorem xf_T2r (hX : xf_ok X l own cc nL fr lo wf D tys) (np : Nat) (hp : pc + 3 = np) {v1 v2 : Value} (hM : xf_M l y cc' nL' ret' fr' lo' wf D tys [v1, v2] σ rq) (hy : xf_sta y cc' nL' ret' 2) {host : String} (hl : Cond.methodLinkNest own idx y host ∈ xf_NL) (hw : Nat.ble ((rest.map fun v => v.category).sum) 8 = true) (hR : (Nat.ble (fr' + 1) fr && Nat.ble (8 + (nL' + 11) + lo') lo) = true) (hd : decode cc pc = .ok (.invokestatic idx, 3)) (kk : ∀ (v : Option Value) (u : xf_S), rq v u → xf_V X np L (v.toList ++ rest) u) : xf_V X pc L (v2 :: v1 :: rest) σ := by
  exact xf_callSN hX np hp [v1, v2] rest hM hy hl rfl rfl (Nat.le_of_ble_eq_true hw) (xf_ble hR) hd kk
theorem xf_V2i (hX : xf_ok X l own cc nL fr lo wf D tys) (np : Nat) (hp : pc + 3 = np) {v1 v2 : Value} (hM : xf_F l y cc' nL' ret' fr' lo' wf D tys [.ref b, v1, v2] σ (some (.int r)) σ') (hy : xf_vir y cc' nL' ret' 2) (hl : Cond.methodLink own idx y ∈ xf_GW) (hrc : xf_rcv wf σ b y.cls) (hw : Nat.ble ((rest.map fun v => v.category).sum) 8 = true) (hR : (Nat.ble (fr' + 1) fr && Nat.ble (8 + (nL' + 11) + lo') lo) = true) (hd : decode cc pc = .ok (.invokevirtual idx, 3)) (kk : xf_V X np L (.int r :: rest) σ') : xf_V X pc L (v2 :: v1 :: .ref b :: rest) σ := by
  obtain ⟨q0, ci, fs, r0, e1, e2, e3⟩ := hrc
  exact xf_callV hX np hp [v1, v2] rest hM hy hl q0 ci e1 e2 e3 rfl rfl (Nat.le_of_ble_eq_true hw) (xf_ble hR) hd (fun v u h => by obtain ⟨rfl, rfl⟩ := h; exact kk)
theorem xf_V2v (hX : xf_ok X l own cc nL fr lo wf D tys) (np : Nat) (hp : pc + 3 = np) {v1 v2 : Value} (hM : xf_F l y cc' nL' ret' fr' lo' wf D tys [.ref b, v1, v2] σ none σ') (hy : xf_vir y cc' nL' ret' 2) (hl : Cond.methodLink own idx y ∈ xf_GW) (hrc : xf_rcv wf σ b y.cls) (hw : Nat.ble ((rest.map fun v => v.category).sum) 8 = true) (hR : (Nat.ble (fr' + 1) fr && Nat.ble (8 + (nL' + 11) + lo') lo) = true) (hd : decode cc pc = .ok (.invokevirtual idx, 3)) (kk : xf_V X np L rest σ') : xf_V X pc L (v2 :: v1 :: .ref b :: rest) σ := by
  obtain ⟨q0, ci, fs, r0, e1, e2, e3⟩ := hrc
  exact xf_callV hX np hp [v1, v2] rest hM hy hl q0 ci e1 e2 e3 rfl rfl (Nat.le_of_ble_eq_true hw) (xf_ble hR) hd (fun v u h => by obtain ⟨rfl, rfl⟩ := h; exact kk)
theorem xf_V2r (hX : xf_ok X l own cc nL fr lo wf D tys) (np : Nat) (hp : pc + 3 = np) {v1 v2 : Value} (hM : xf_M l y cc' nL' ret' fr' lo' wf D tys [.ref b, v1, v2] σ rq) (hy : xf_vir y cc' nL' ret' 2) (hl : Cond.methodLink own idx y ∈ xf_GW) (hrc : xf_rcv wf σ b y.cls) (hw : Nat.ble ((rest.map fun v => v.category).sum) 8 = true) (hR : (Nat.ble (fr' + 1) fr && Nat.ble (8 + (nL' + 11) + lo') lo) = true) (hd : decode cc pc = .ok (.invokevirtual idx, 3)) (kk : ∀ (v : Option Value) (u : xf_S), rq v u → xf_V X np L (v.toList ++ rest) u) : xf_V X pc L (v2 :: v1 :: .ref b :: rest) σ := by
  obtain ⟨q0, ci, fs, r0, e1, e2, e3⟩ := hrc
  exact xf_callV hX np hp [v1, v2] rest hM hy hl q0 ci e1 e2 e3 rfl rfl (Nat.le_of_ble_eq_true hw) (xf_ble hR) hd kk
theorem xf_U2i (hX : xf_ok X l own cc nL fr lo wf D tys) (np : Nat) (hp : pc + 3 = np) {v1 v2 : Value} (hM : xf_F l y cc' nL' ret' fr' lo' wf D tys [.ref b, v1, v2] σ (some (.int r)) σ') (hy : xf_vir y cc' nL' ret' 2) {host : String} (hl : Cond.methodLinkNest own idx y host ∈ xf_NL) (hrc : xf_rcv wf σ b y.cls) (hw : Nat.ble ((rest.map fun v => v.category).sum) 8 = true) (hR : (Nat.ble (fr' + 1) fr && Nat.ble (8 + (nL' + 11) + lo') lo) = true) (hd : decode cc pc = .ok (.invokevirtual idx, 3)) (kk : xf_V X np L (.int r :: rest) σ') : xf_V X pc L (v2 :: v1 :: .ref b :: rest) σ := by
  obtain ⟨q0, ci, fs, r0, e1, e2, e3⟩ := hrc
  exact xf_callVN hX np hp [v1, v2] rest hM hy hl q0 ci e1 e2 e3 rfl rfl (Nat.le_of_ble_eq_true hw) (xf_ble hR) hd (fun v u h => by obtain ⟨rfl, rfl⟩ := h; exact kk)
theorem xf_U2v (hX : xf_ok X l own cc nL fr lo wf D tys) (np : Nat) (hp : pc + 3 = np) {v1 v2 : Value} (hM : xf_F l y cc' nL' ret' fr' lo' wf D tys [.ref b, v1, v2] σ none σ') (hy : xf_vir y cc' nL' ret' 2) {host : String} (hl : Cond.methodLinkNest own idx y host ∈ xf_NL) (hrc : xf_rcv wf σ b y.cls) (hw : Nat.ble ((rest.map fun v => v.category).sum) 8 = true) (hR : (Nat.ble (fr' + 1) fr && Nat.ble (8 + (nL' + 11) + lo') lo) = true) (hd : decode cc pc = .ok (.invokevirtual idx, 3)) (kk : xf_V X np L rest σ') : xf_V X pc L (v2 :: v1 :: .ref b :: rest) σ := by
  obtain ⟨q0, ci, fs, r0, e1, e2, e3⟩ := hrc
  exact xf_callVN hX np hp [v1, v2] rest hM hy hl q0 ci e1 e2 e3 rfl rfl (Nat.le_of_ble_eq_true hw) (xf_ble hR) hd (fun v u h => by obtain ⟨rfl, rfl⟩ := h; exact kk)
theorem xf_U2r (hX : xf_ok X l own cc nL fr lo wf D tys) (np : Nat) (hp : pc + 3 = np) {v1 v2 : Value} (hM : xf_M l y cc' nL' ret' fr' lo' wf D tys [.ref b, v1, v2] σ rq) (hy : xf_vir y cc' nL' ret' 2) {host : String} (hl : Cond.methodLinkNest own idx y host ∈ xf_NL) (hrc : xf_rcv wf σ b y.cls) (hw : Nat.ble ((rest.map fun v => v.category).sum) 8 = true) (hR : (Nat.ble (fr' + 1) fr && Nat.ble (8 + (nL' + 11) + lo') lo) = true) (hd : decode cc pc = .ok (.invokevirtual idx, 3)) (kk : ∀ (v : Option Value) (u : xf_S), rq v u → xf_V X np L (v.toList ++ rest) u) : xf_V X pc L (v2 :: v1 :: .ref b :: rest) σ := by
  obtain ⟨q0, ci, fs, r0, e1, e2, e3⟩ := hrc
  exact xf_callVN hX np hp [v1, v2] rest hM hy hl q0 ci e1 e2 e3 rfl rfl (Nat.le_of_ble_eq_true hw) (xf_ble hR) hd kk
theorem xf_S3i (hX : xf_ok X l own cc nL fr lo wf D tys) (np : Nat) (hp : pc + 3 = np) {v1 v2 v3 : Value} (hM : xf_F l y cc' nL' ret' fr' lo' wf D tys [v1, v2, v3] σ (some (.int r)) σ') (hy : xf_sta y cc' nL' ret' 3) (hl : Cond.methodLink own idx y ∈ xf_GW) (hw : Nat.ble ((rest.map fun v => v.category).sum) 8 = true) (hR : (Nat.ble (fr' + 1) fr && Nat.ble (8 + (nL' + 11) + lo') lo) = true) (hd : decode cc pc = .ok (.invokestatic idx, 3)) (kk : xf_V X np L (.int r :: rest) σ') : xf_V X pc L (v3 :: v2 :: v1 :: rest) σ := by
  exact xf_callS hX np hp [v1, v2, v3] rest hM hy hl rfl rfl (Nat.le_of_ble_eq_true hw) (xf_ble hR) hd (fun v u h => by obtain ⟨rfl, rfl⟩ := h; exact kk)
theorem xf_S3v (hX : xf_ok X l own cc nL fr lo wf D tys) (np : Nat) (hp : pc + 3 = np) {v1 v2 v3 : Value} (hM : xf_F l y cc' nL' ret' fr' lo' wf D tys [v1, v2, v3] σ none σ') (hy : xf_sta y cc' nL' ret' 3) (hl : Cond.methodLink own idx y ∈ xf_GW) (hw : Nat.ble ((rest.map fun v => v.category).sum) 8 = true) (hR : (Nat.ble (fr' + 1) fr && Nat.ble (8 + (nL' + 11) + lo') lo) = true) (hd : decode cc pc = .ok (.invokestatic idx, 3)) (kk : xf_V X np L rest σ') : xf_V X pc L (v3 :: v2 :: v1 :: rest) σ := by
  exact xf_callS hX np hp [v1, v2, v3] rest hM hy hl rfl rfl (Nat.le_of_ble_eq_true hw) (xf_ble hR) hd (fun v u h => by obtain ⟨rfl, rfl⟩ := h; exact kk)
theorem xf_S3r (hX : xf_ok X l own cc nL fr lo wf D tys) (np : Nat) (hp : pc + 3 = np) {v1 v2 v3 : Value} (hM : xf_M l y cc' nL' ret' fr' lo' wf D tys [v1, v2, v3] σ rq) (hy : xf_sta y cc' nL' ret' 3) (hl : Cond.methodLink own idx y ∈ xf_GW) (hw : Nat.ble ((rest.map fun v => v.category).sum) 8 = true) (hR : (Nat.ble (fr' + 1) fr && Nat.ble (8 + (nL' + 11) + lo') lo) = true) (hd : decode cc pc = .ok (.invokestatic idx, 3)) (kk : ∀ (v : Option Value) (u : xf_S), rq v u → xf_V X np L (v.toList ++ rest) u) : xf_V X pc L (v3 :: v2 :: v1 :: rest) σ := by
  exact xf_callS hX np hp [v1, v2, v3] rest hM hy hl rfl rfl (Nat.le_of_ble_eq_true hw) (xf_ble hR) hd kk
theorem xf_T3i (hX : xf_ok X l own cc nL fr lo wf D tys) (np : Nat) (hp : pc + 3 = np) {v1 v2 v3 : Value} (hM : xf_F l y cc' nL' ret' fr' lo' wf D tys [v1, v2, v3] σ (some (.int r)) σ') (hy : xf_sta y cc' nL' ret' 3) {host : String} (hl : Cond.methodLinkNest own idx y host ∈ xf_NL) (hw : Nat.ble ((rest.map fun v => v.category).sum) 8 = true) (hR : (Nat.ble (fr' + 1) fr && Nat.ble (8 + (nL' + 11) + lo') lo) = true) (hd : decode cc pc = .ok (.invokestatic idx, 3)) (kk : xf_V X np L (.int r :: rest) σ') : xf_V X pc L (v3 :: v2 :: v1 :: rest) σ := by
  exact xf_callSN hX np hp [v1, v2, v3] rest hM hy hl rfl rfl (Nat.le_of_ble_eq_true hw) (xf_ble hR) hd (fun v u h => by obtain ⟨rfl, rfl⟩ := h; exact kk)
theorem xf_T3v (hX : xf_ok X l own cc nL fr lo wf D tys) (np : Nat) (hp : pc + 3 = np) {v1 v2 v3 : Value} (hM : xf_F l y cc' nL' ret' fr' lo' wf D tys [v1, v2, v3] σ none σ') (hy : xf_sta y cc' nL' ret' 3) {host : String} (hl : Cond.methodLinkNest own idx y host ∈ xf_NL) (hw : Nat.ble ((rest.map fun v => v.category).sum) 8 = true) (hR : (Nat.ble (fr' + 1) fr && Nat.ble (8 + (nL' + 11) + lo') lo) = true) (hd : decode cc pc = .ok (.invokestatic idx, 3)) (kk : xf_V X np L rest σ') : xf_V X pc L (v3 :: v2 :: v1 :: rest) σ := by
  exact xf_callSN hX np hp [v1, v2, v3] rest hM hy hl rfl rfl (Nat.le_of_ble_eq_true hw) (xf_ble hR) hd (fun v u h => by obtain ⟨rfl, rfl⟩ := h; exact kk)
theorem xf_T3r (hX : xf_ok X l own cc nL fr lo wf D tys) (np : Nat) (hp : pc + 3 = np) {v1 v2 v3 : Value} (hM : xf_M l y cc' nL' ret' fr' lo' wf D tys [v1, v2, v3] σ rq) (hy : xf_sta y cc' nL' ret' 3) {host : String} (hl : Cond.methodLinkNest own idx y host ∈ xf_NL) (hw : Nat.ble ((rest.map fun v => v.category).sum) 8 = true) (hR : (Nat.ble (fr' + 1) fr && Nat.ble (8 + (nL' + 11) + lo') lo) = true) (hd : decode cc pc = .ok (.invokestatic idx, 3)) (kk : ∀ (v : Option Value) (u : xf_S), rq v u → xf_V X np L (v.toList ++ rest) u) : xf_V X pc L (v3 :: v2 :: v1 :: rest) σ := by
  exact xf_callSN hX np hp [v1, v2, v3] rest hM hy hl rfl rfl (Nat.le_of_ble_eq_true hw) (xf_ble hR) hd kk
theorem xf_V3i (hX : xf_ok X l own cc nL fr lo wf D tys) (np : Nat) (hp : pc + 3 = np) {v1 v2 v3 : Value} (hM : xf_F l y cc' nL' ret' fr' lo' wf D tys [.ref b, v1, v2, v3] σ (some (.int r)) σ') (hy : xf_vir y cc' nL' ret' 3) (hl : Cond.methodLink own idx y ∈ xf_GW) (hrc : xf_rcv wf σ b y.cls) (hw : Nat.ble ((rest.map fun v => v.category).sum) 8 = true) (hR : (Nat.ble (fr' + 1) fr && Nat.ble (8 + (nL' + 11) + lo') lo) = true) (hd : decode cc pc = .ok (.invokevirtual idx, 3)) (kk : xf_V X np L (.int r :: rest) σ') : xf_V X pc L (v3 :: v2 :: v1 :: .ref b :: rest) σ := by
  obtain ⟨q0, ci, fs, r0, e1, e2, e3⟩ := hrc
  exact xf_callV hX np hp [v1, v2, v3] rest hM hy hl q0 ci e1 e2 e3 rfl rfl (Nat.le_of_ble_eq_true hw) (xf_ble hR) hd (fun v u h => by obtain ⟨rfl, rfl⟩ := h; exact kk)
theorem xf_V3v (hX : xf_ok X l own cc nL fr lo wf D tys) (np : Nat) (hp : pc + 3 = np) {v1 v2 v3 : Value} (hM : xf_F l y cc' nL' ret' fr' lo' wf D tys [.ref b, v1, v2, v3] σ none σ') (hy : xf_vir y cc' nL' ret' 3) (hl : Cond.methodLink own idx y ∈ xf_GW) (hrc : xf_rcv wf σ b y.cls) (hw : Nat.ble ((rest.map fun v => v.category).sum) 8 = true) (hR : (Nat.ble (fr' + 1) fr && Nat.ble (8 + (nL' + 11) + lo') lo) = true) (hd : decode cc pc = .ok (.invokevirtual idx, 3)) (kk : xf_V X np L rest σ') : xf_V X pc L (v3 :: v2 :: v1 :: .ref b :: rest) σ := by
  obtain ⟨q0, ci, fs, r0, e1, e2, e3⟩ := hrc
  exact xf_callV hX np hp [v1, v2, v3] rest hM hy hl q0 ci e1 e2 e3 rfl rfl (Nat.le_of_ble_eq_true hw) (xf_ble hR) hd (fun v u h => by obtain ⟨rfl, rfl⟩ := h; exact kk)
theorem xf_V3r (hX : xf_ok X l own cc nL fr lo wf D tys) (np : Nat) (hp : pc + 3 = np) {v1 v2 v3 : Value} (hM : xf_M l y cc' nL' ret' fr' lo' wf D tys [.ref b, v1, v2, v3] σ rq) (hy : xf_vir y cc' nL' ret' 3) (hl : Cond.methodLink own idx y ∈ xf_GW) (hrc : xf_rcv wf σ b y.cls) (hw : Nat.ble ((rest.map fun v => v.category).sum) 8 = true) (hR : (Nat.ble (fr' + 1) fr && Nat.ble (8 + (nL' + 11) + lo') lo) = true) (hd : decode cc pc = .ok (.invokevirtual idx, 3)) (kk : ∀ (v : Option Value) (u : xf_S), rq v u → xf_V X np L (v.toList ++ rest) u) : xf_V X pc L (v3 :: v2 :: v1 :: .ref b :: rest) σ := by
  obtain ⟨q0, ci, fs, r0, e1, e2, e3⟩ := hrc
  exact xf_callV hX np hp [v1, v2, v3] rest hM hy hl q0 ci e1 e2 e3 rfl rfl (Nat.le_of_ble_eq_true hw) (xf_ble hR) hd kk
theorem xf_U3i (hX : xf_ok X l own cc nL fr lo wf D tys) (np : Nat) (hp : pc + 3 = np) {v1 v2 v3 : Value} (hM : xf_F l y cc' nL' ret' fr' lo' wf D tys [.ref b, v1, v2, v3] σ (some (.int r)) σ') (hy : xf_vir y cc' nL' ret' 3) {host : String} (hl : Cond.methodLinkNest own idx y host ∈ xf_NL) (hrc : xf_rcv wf σ b y.cls) (hw : Nat.ble ((rest.map fun v => v.category).sum) 8 = true) (hR : (Nat.ble (fr' + 1) fr && Nat.ble (8 + (nL' + 11) + lo') lo) = true) (hd : decode cc pc = .ok (.invokevirtual idx, 3)) (kk : xf_V X np L (.int r :: rest) σ') : xf_V X pc L (v3 :: v2 :: v1 :: .ref b :: rest) σ := by
  obtain ⟨q0, ci, fs, r0, e1, e2, e3⟩ := hrc
  exact xf_callVN hX np hp [v1, v2, v3] rest hM hy hl q0 ci e1 e2 e3 rfl rfl (Nat.le_of_ble_eq_true hw) (xf_ble hR) hd (fun v u h => by obtain ⟨rfl, rfl⟩ := h; exact kk)
theorem xf_U3v (hX : xf_ok X l own cc nL fr lo wf D tys) (np : Nat) (hp : pc + 3 = np) {v1 v2 v3 : Value} (hM : xf_F l y cc' nL' ret' fr' lo' wf D tys [.ref b, v1, v2, v3] σ none σ') (hy : xf_vir y cc' nL' ret' 3) {host : String} (hl : Cond.methodLinkNest own idx y host ∈ xf_NL) (hrc : xf_rcv wf σ b y.cls) (hw : Nat.ble ((rest.map fun v => v.category).sum) 8 = true) (hR : (Nat.ble (fr' + 1) fr && Nat.ble (8 + (nL' + 11) + lo') lo) = true) (hd : decode cc pc = .ok (.invokevirtual idx, 3)) (kk : xf_V X np L rest σ') : xf_V X pc L (v3 :: v2 :: v1 :: .ref b :: rest) σ := by
  obtain ⟨q0, ci, fs, r0, e1, e2, e3⟩ := hrc
  exact xf_callVN hX np hp [v1, v2, v3] rest hM hy hl q0 ci e1 e2 e3 rfl rfl (Nat.le_of_ble_eq_true hw) (xf_ble hR) hd (fun v u h => by obtain ⟨rfl, rfl⟩ := h; exact kk)
theorem xf_U3r (hX : xf_ok X l own cc nL fr lo wf D tys) (np : Nat) (hp : pc + 3 = np) {v1 v2 v3 : Value} (hM : xf_M l y cc' nL' ret' fr' lo' wf D tys [.ref b, v1, v2, v3] σ rq) (hy : xf_vir y cc' nL' ret' 3) {host : String} (hl : Cond.methodLinkNest own idx y host ∈ xf_NL) (hrc : xf_rcv wf σ b y.cls) (hw : Nat.ble ((rest.map fun v => v.category).sum) 8 = true) (hR : (Nat.ble (fr' + 1) fr && Nat.ble (8 + (nL' + 11) + lo') lo) = true) (hd : decode cc pc = .ok (.invokevirtual idx, 3)) (kk : ∀ (v : Option Value) (u : xf_S), rq v u → xf_V X np L (v.toList ++ rest) u) : xf_V X pc L (v3 :: v2 :: v1 :: .ref b :: rest) σ := by
  obtain ⟨q0, ci, fs, r0, e1, e2, e3⟩ := hrc
  exact xf_callVN hX np hp [v1, v2, v3] rest hM hy hl q0 ci e1 e2 e3 rfl rfl (Nat.le_of_ble_eq_true hw) (xf_ble hR) hd kk
theorem xf_S4i (hX : xf_ok X l own cc nL fr lo wf D tys) (np : Nat) (hp : pc + 3 = np) {v1 v2 v3 v4 : Value} (hM : xf_F l y cc' nL' ret' fr' lo' wf D tys [v1, v2, v3, v4] σ (some (.int r)) σ') (hy : xf_sta y cc' nL' ret' 4) (hl : Cond.methodLink own idx y ∈ xf_GW) (hw : Nat.ble ((rest.map fun v => v.category).sum) 8 = true) (hR : (Nat.ble (fr' + 1) fr && Nat.ble (8 + (nL' + 11) + lo') lo) = true) (hd : decode cc pc = .ok (.invokestatic idx, 3)) (kk : xf_V X np L (.int r :: rest) σ') : xf_V X pc L (v4 :: v3 :: v2 :: v1 :: rest) σ := by
  exact xf_callS hX np hp [v1, v2, v3, v4] rest hM hy hl rfl rfl (Nat.le_of_ble_eq_true hw) (xf_ble hR) hd (fun v u h => by obtain ⟨rfl, rfl⟩ := h; exact kk)
theorem xf_S4v (hX : xf_ok X l own cc nL fr lo wf D tys) (np : Nat) (hp : pc + 3 = np) {v1 v2 v3 v4 : Value} (hM : xf_F l y cc' nL' ret' fr' lo' wf D tys [v1, v2, v3, v4] σ none σ') (hy : xf_sta y cc' nL' ret' 4) (hl : Cond.methodLink own idx y ∈ xf_GW) (hw : Nat.ble ((rest.map fun v => v.category).sum) 8 = true) (hR : (Nat.ble (fr' + 1) fr && Nat.ble (8 + (nL' + 11) + lo') lo) = true) (hd : decode cc pc = .ok (.invokestatic idx, 3)) (kk : xf_V X np L rest σ') : xf_V X pc L (v4 :: v3 :: v2 :: v1 :: rest) σ := by
  exact xf_callS hX np hp [v1, v2, v3, v4] rest hM hy hl rfl rfl (Nat.le_of_ble_eq_true hw) (xf_ble hR) hd (fun v u h => by obtain ⟨rfl, rfl⟩ := h; exact kk)
theorem xf_S4r (hX : xf_ok X l own cc nL fr lo wf D tys) (np : Nat) (hp : pc + 3 = np) {v1 v2 v3 v4 : Value} (hM : xf_M l y cc' nL' ret' fr' lo' wf D tys [v1, v2, v3, v4] σ rq) (hy : xf_sta y cc' nL' ret' 4) (hl : Cond.methodLink own idx y ∈ xf_GW) (hw : Nat.ble ((rest.map fun v => v.category).sum) 8 = true) (hR : (Nat.ble (fr' + 1) fr && Nat.ble (8 + (nL' + 11) + lo') lo) = true) (hd : decode cc pc = .ok (.invokestatic idx, 3)) (kk : ∀ (v : Option Value) (u : xf_S), rq v u → xf_V X np L (v.toList ++ rest) u) : xf_V X pc L (v4 :: v3 :: v2 :: v1 :: rest) σ := by
  exact xf_callS hX np hp [v1, v2, v3, v4] rest hM hy hl rfl rfl (Nat.le_of_ble_eq_true hw) (xf_ble hR) hd kk
theorem xf_T4i (hX : xf_ok X l own cc nL fr lo wf D tys) (np : Nat) (hp : pc + 3 = np) {v1 v2 v3 v4 : Value} (hM : xf_F l y cc' nL' ret' fr' lo' wf D tys [v1, v2, v3, v4] σ (some (.int r)) σ') (hy : xf_sta y cc' nL' ret' 4) {host : String} (hl : Cond.methodLinkNest own idx y host ∈ xf_NL) (hw : Nat.ble ((rest.map fun v => v.category).sum) 8 = true) (hR : (Nat.ble (fr' + 1) fr && Nat.ble (8 + (nL' + 11) + lo') lo) = true) (hd : decode cc pc = .ok (.invokestatic idx, 3)) (kk : xf_V X np L (.int r :: rest) σ') : xf_V X pc L (v4 :: v3 :: v2 :: v1 :: rest) σ := by
  exact xf_callSN hX np hp [v1, v2, v3, v4] rest hM hy hl rfl rfl (Nat.le_of_ble_eq_true hw) (xf_ble hR) hd (fun v u h => by obtain ⟨rfl, rfl⟩ := h; exact kk)
theorem xf_T4v (hX : xf_ok X l own cc nL fr lo wf D tys) (np : Nat) (hp : pc + 3 = np) {v1 v2 v3 v4 : Value} (hM : xf_F l y cc' nL' ret' fr' lo' wf D tys [v1, v2, v3, v4] σ none σ') (hy : xf_sta y cc' nL' ret' 4) {host : String} (hl : Cond.methodLinkNest own idx y host ∈ xf_NL) (hw : Nat.ble ((rest.map fun v => v.category).sum) 8 = true) (hR : (Nat.ble (fr' + 1) fr && Nat.ble (8 + (nL' + 11) + lo') lo) = true) (hd : decode cc pc = .ok (.invokestatic idx, 3)) (kk : xf_V X np L rest σ') : xf_V X pc L (v4 :: v3 :: v2 :: v1 :: rest) σ := by
  exact xf_callSN hX np hp [v1, v2, v3, v4] rest hM hy hl rfl rfl (Nat.le_of_ble_eq_true hw) (xf_ble hR) hd (fun v u h => by obtain ⟨rfl, rfl⟩ := h; exact kk)
theorem xf_T4r (hX : xf_ok X l own cc nL fr lo wf D tys) (np : Nat) (hp : pc + 3 = np) {v1 v2 v3 v4 : Value} (hM : xf_M l y cc' nL' ret' fr' lo' wf D tys [v1, v2, v3, v4] σ rq) (hy : xf_sta y cc' nL' ret' 4) {host : String} (hl : Cond.methodLinkNest own idx y host ∈ xf_NL) (hw : Nat.ble ((rest.map fun v => v.category).sum) 8 = true) (hR : (Nat.ble (fr' + 1) fr && Nat.ble (8 + (nL' + 11) + lo') lo) = true) (hd : decode cc pc = .ok (.invokestatic idx, 3)) (kk : ∀ (v : Option Value) (u : xf_S), rq v u → xf_V X np L (v.toList ++ rest) u) : xf_V X pc L (v4 :: v3 :: v2 :: v1 :: rest) σ := by
  exact xf_callSN hX np hp [v1, v2, v3, v4] rest hM hy hl rfl rfl (Nat.le_of_ble_eq_true hw) (xf_ble hR) hd kk
theorem xf_V4i (hX : xf_ok X l own cc nL fr lo wf D tys) (np : Nat) (hp : pc + 3 = np) {v1 v2 v3 v4 : Value} (hM : xf_F l y cc' nL' ret' fr' lo' wf D tys [.ref b, v1, v2, v3, v4] σ (some (.int r)) σ') (hy : xf_vir y cc' nL' ret' 4) (hl : Cond.methodLink own idx y ∈ xf_GW) (hrc : xf_rcv wf σ b y.cls) (hw : Nat.ble ((rest.map fun v => v.category).sum) 8 = true) (hR : (Nat.ble (fr' + 1) fr && Nat.ble (8 + (nL' + 11) + lo') lo) = true) (hd : decode cc pc = .ok (.invokevirtual idx, 3)) (kk : xf_V X np L (.int r :: rest) σ') : xf_V X pc L (v4 :: v3 :: v2 :: v1 :: .ref b :: rest) σ := by
  obtain ⟨q0, ci, fs, r0, e1, e2, e3⟩ := hrc
  exact xf_callV hX np hp [v1, v2, v3, v4] rest hM hy hl q0 ci e1 e2 e3 rfl rfl (Nat.le_of_ble_eq_true hw) (xf_ble hR) hd (fun v u h => by obtain ⟨rfl, rfl⟩ := h; exact kk)
theorem xf_V4v (hX : xf_ok X l own cc nL fr lo wf D tys) (np : Nat) (hp : pc + 3 = np) {v1 v2 v3 v4 : Value} (hM : xf_F l y cc' nL' ret' fr' lo' wf D tys [.ref b, v1, v2, v3, v4] σ none σ') (hy : xf_vir y cc' nL' ret' 4) (hl : Cond.methodLink own idx y ∈ xf_GW) (hrc : xf_rcv wf σ b y.cls) (hw : Nat.ble ((rest.map fun v => v.category).sum) 8 = true) (hR : (Nat.ble (fr' + 1) fr && Nat.ble (8 + (nL' + 11) + lo') lo) = true) (hd : decode cc pc = .ok (.invokevirtual idx, 3)) (kk : xf_V X np L rest σ') : xf_V X pc L (v4 :: v3 :: v2 :: v1 :: .ref b :: rest) σ := by
  obtain ⟨q0, ci, fs, r0, e1, e2, e3⟩ := hrc
  exact xf_callV hX np hp [v1, v2, v3, v4] rest hM hy hl q0 ci e1 e2 e3 rfl rfl (Nat.le_of_ble_eq_true hw) (xf_ble hR) hd (fun v u h => by obtain ⟨rfl, rfl⟩ := h; exact kk)
theorem xf_V4r (hX : xf_ok X l own cc nL fr lo wf D tys) (np : Nat) (hp : pc + 3 = np) {v1 v2 v3 v4 : Value} (hM : xf_M l y cc' nL' ret' fr' lo' wf D tys [.ref b, v1, v2, v3, v4] σ rq) (hy : xf_vir y cc' nL' ret' 4) (hl : Cond.methodLink own idx y ∈ xf_GW) (hrc : xf_rcv wf σ b y.cls) (hw : Nat.ble ((rest.map fun v => v.category).sum) 8 = true) (hR : (Nat.ble (fr' + 1) fr && Nat.ble (8 + (nL' + 11) + lo') lo) = true) (hd : decode cc pc = .ok (.invokevirtual idx, 3)) (kk : ∀ (v : Option Value) (u : xf_S), rq v u → xf_V X np L (v.toList ++ rest) u) : xf_V X pc L (v4 :: v3 :: v2 :: v1 :: .ref b :: rest) σ := by
  obtain ⟨q0, ci, fs, r0, e1, e2, e3⟩ := hrc
  exact xf_callV hX np hp [v1, v2, v3, v4] rest hM hy hl q0 ci e1 e2 e3 rfl rfl (Nat.le_of_ble_eq_true hw) (xf_ble hR) hd kk
theorem xf_U4i (hX : xf_ok X l own cc nL fr lo wf D tys) (np : Nat) (hp : pc + 3 = np) {v1 v2 v3 v4 : Value} (hM : xf_F l y cc' nL' ret' fr' lo' wf D tys [.ref b, v1, v2, v3, v4] σ (some (.int r)) σ') (hy : xf_vir y cc' nL' ret' 4) {host : String} (hl : Cond.methodLinkNest own idx y host ∈ xf_NL) (hrc : xf_rcv wf σ b y.cls) (hw : Nat.ble ((rest.map fun v => v.category).sum) 8 = true) (hR : (Nat.ble (fr' + 1) fr && Nat.ble (8 + (nL' + 11) + lo') lo) = true) (hd : decode cc pc = .ok (.invokevirtual idx, 3)) (kk : xf_V X np L (.int r :: rest) σ') : xf_V X pc L (v4 :: v3 :: v2 :: v1 :: .ref b :: rest) σ := by
  obtain ⟨q0, ci, fs, r0, e1, e2, e3⟩ := hrc
  exact xf_callVN hX np hp [v1, v2, v3, v4] rest hM hy hl q0 ci e1 e2 e3 rfl rfl (Nat.le_of_ble_eq_true hw) (xf_ble hR) hd (fun v u h => by obtain ⟨rfl, rfl⟩ := h; exact kk)
theorem xf_U4v (hX : xf_ok X l own cc nL fr lo wf D tys) (np : Nat) (hp : pc + 3 = np) {v1 v2 v3 v4 : Value} (hM : xf_F l y cc' nL' ret' fr' lo' wf D tys [.ref b, v1, v2, v3, v4] σ none σ') (hy : xf_vir y cc' nL' ret' 4) {host : String} (hl : Cond.methodLinkNest own idx y host ∈ xf_NL) (hrc : xf_rcv wf σ b y.cls) (hw : Nat.ble ((rest.map fun v => v.category).sum) 8 = true) (hR : (Nat.ble (fr' + 1) fr && Nat.ble (8 + (nL' + 11) + lo') lo) = true) (hd : decode cc pc = .ok (.invokevirtual idx, 3)) (kk : xf_V X np L rest σ') : xf_V X pc L (v4 :: v3 :: v2 :: v1 :: .ref b :: rest) σ := by
  obtain ⟨q0, ci, fs, r0, e1, e2, e3⟩ := hrc
  exact xf_callVN hX np hp [v1, v2, v3, v4] rest hM hy hl q0 ci e1 e2 e3 rfl rfl (Nat.le_of_ble_eq_true hw) (xf_ble hR) hd (fun v u h => by obtain ⟨rfl, rfl⟩ := h; exact kk)
theorem xf_U4r (hX : xf_ok X l own cc nL fr lo wf D tys) (np : Nat) (hp : pc + 3 = np) {v1 v2 v3 v4 : Value} (hM : xf_M l y cc' nL' ret' fr' lo' wf D tys [.ref b, v1, v2, v3, v4] σ rq) (hy : xf_vir y cc' nL' ret' 4) {host : String} (hl : Cond.methodLinkNest own idx y host ∈ xf_NL) (hrc : xf_rcv wf σ b y.cls) (hw : Nat.ble ((rest.map fun v => v.category).sum) 8 = true) (hR : (Nat.ble (fr' + 1) fr && Nat.ble (8 + (nL' + 11) + lo') lo) = true) (hd : decode cc pc = .ok (.invokevirtual idx, 3)) (kk : ∀ (v : Option Value) (u : xf_S), rq v u → xf_V X np L (v.toList ++ rest) u) : xf_V X pc L (v4 :: v3 :: v2 :: v1 :: .ref b :: rest) σ := by
  obtain ⟨q0, ci, fs, r0, e1, e2, e3⟩ := hrc
  exact xf_callVN hX np hp [v1, v2, v3, v4] rest hM hy hl q0 ci e1 e2 e3 rfl rfl (Nat.le_of_ble_eq_true hw) (xf_ble hR) hd kk
theorem xf_S5i (hX : xf_ok X l own cc nL fr lo wf D tys) (np : Nat) (hp : pc + 3 = np) {v1 v2 v3 v4 v5 : Value} (hM : xf_F l y cc' nL' ret' fr' lo' wf D tys [v1, v2, v3, v4, v5] σ (some (.int r)) σ') (hy : xf_sta y cc' nL' ret' 5) (hl : Cond.methodLink own idx y ∈ xf_GW) (hw : Nat.ble ((rest.map fun v => v.category).sum) 8 = true) (hR : (Nat.ble (fr' + 1) fr && Nat.ble (8 + (nL' + 11) + lo') lo) = true) (hd : decode cc pc = .ok (.invokestatic idx, 3)) (kk : xf_V X np L (.int r :: rest) σ') : xf_V X pc L (v5 :: v4 :: v3 :: v2 :: v1 :: rest) σ := by
  exact xf_callS hX np hp [v1, v2, v3, v4, v5] rest hM hy hl rfl rfl (Nat.le_of_ble_eq_true hw) (xf_ble hR) hd (fun v u h => by obtain ⟨rfl, rfl⟩ := h; exact kk)
theorem xf_S5v (hX : xf_ok X l own cc nL fr lo wf D tys) (np : Nat) (hp : pc + 3 = np) {v1 v2 v3 v4 v5 : Value} (hM : xf_F l y cc' nL' ret' fr' lo' wf D tys [v1, v2, v3, v4, v5] σ none σ') (hy : xf_sta y cc' nL' ret' 5) (hl : Cond.methodLink own idx y ∈ xf_GW) (hw : Nat.ble ((rest.map fun v => v.category).sum) 8 = true) (hR : (Nat.ble (fr' + 1) fr && Nat.ble (8 + (nL' + 11) + lo') lo) = true) (hd : decode cc pc = .ok (.invokestatic idx, 3)) (kk : xf_V X np L rest σ') : xf_V X pc L (v5 :: v4 :: v3 :: v2 :: v1 :: rest) σ := by
  exact xf_callS hX np hp [v1, v2, v3, v4, v5] rest hM hy hl rfl rfl (Nat.le_of_ble_eq_true hw) (xf_ble hR) hd (fun v u h => by obtain ⟨rfl, rfl⟩ := h; exact kk)
theorem xf_S5r (hX : xf_ok X l own cc nL fr lo wf D tys) (np : Nat) (hp : pc + 3 = np) {v1 v2 v3 v4 v5 : Value} (hM : xf_M l y cc' nL' ret' fr' lo' wf D tys [v1, v2, v3, v4, v5] σ rq) (hy : xf_sta y cc' nL' ret' 5) (hl : Cond.methodLink own idx y ∈ xf_GW) (hw : Nat.ble ((rest.map fun v => v.category).sum) 8 = true) (hR : (Nat.ble (fr' + 1) fr && Nat.ble (8 + (nL' + 11) + lo') lo) = true) (hd : decode cc pc = .ok (.invokestatic idx, 3)) (kk : ∀ (v : Option Value) (u : xf_S), rq v u → xf_V X np L (v.toList ++ rest) u) : xf_V X pc L (v5 :: v4 :: v3 :: v2 :: v1 :: rest) σ := by
  exact xf_callS hX np hp [v1, v2, v3, v4, v5] rest hM hy hl rfl rfl (Nat.le_of_ble_eq_true hw) (xf_ble hR) hd kk
theorem xf_T5i (hX : xf_ok X l own cc nL fr lo wf D tys) (np : Nat) (hp : pc + 3 = np) {v1 v2 v3 v4 v5 : Value} (hM : xf_F l y cc' nL' ret' fr' lo' wf D tys [v1, v2, v3, v4, v5] σ (some (.int r)) σ') (hy : xf_sta y cc' nL' ret' 5) {host : String} (hl : Cond.methodLinkNest own idx y host ∈ xf_NL) (hw : Nat.ble ((rest.map fun v => v.category).sum) 8 = true) (hR : (Nat.ble (fr' + 1) fr && Nat.ble (8 + (nL' + 11) + lo') lo) = true) (hd : decode cc pc = .ok (.invokestatic idx, 3)) (kk : xf_V X np L (.int r :: rest) σ') : xf_V X pc L (v5 :: v4 :: v3 :: v2 :: v1 :: rest) σ := by
  exact xf_callSN hX np hp [v1, v2, v3, v4, v5] rest hM hy hl rfl rfl (Nat.le_of_ble_eq_true hw) (xf_ble hR) hd (fun v u h => by obtain ⟨rfl, rfl⟩ := h; exact kk)
theorem xf_T5v (hX : xf_ok X l own cc nL fr lo wf D tys) (np : Nat) (hp : pc + 3 = np) {v1 v2 v3 v4 v5 : Value} (hM : xf_F l y cc' nL' ret' fr' lo' wf D tys [v1, v2, v3, v4, v5] σ none σ') (hy : xf_sta y cc' nL' ret' 5) {host : String} (hl : Cond.methodLinkNest own idx y host ∈ xf_NL) (hw : Nat.ble ((rest.map fun v => v.category).sum) 8 = true) (hR : (Nat.ble (fr' + 1) fr && Nat.ble (8 + (nL' + 11) + lo') lo) = true) (hd : decode cc pc = .ok (.invokestatic idx, 3)) (kk : xf_V X np L rest σ') : xf_V X pc L (v5 :: v4 :: v3 :: v2 :: v1 :: rest) σ := by
  exact xf_callSN hX np hp [v1, v2, v3, v4, v5] rest hM hy hl rfl rfl (Nat.le_of_ble_eq_true hw) (xf_ble hR) hd (fun v u h => by obtain ⟨rfl, rfl⟩ := h; exact kk)
theorem xf_T5r (hX : xf_ok X l own cc nL fr lo wf D tys) (np : Nat) (hp : pc + 3 = np) {v1 v2 v3 v4 v5 : Value} (hM : xf_M l y cc' nL' ret' fr' lo' wf D tys [v1, v2, v3, v4, v5] σ rq) (hy : xf_sta y cc' nL' ret' 5) {host : String} (hl : Cond.methodLinkNest own idx y host ∈ xf_NL) (hw : Nat.ble ((rest.map fun v => v.category).sum) 8 = true) (hR : (Nat.ble (fr' + 1) fr && Nat.ble (8 + (nL' + 11) + lo') lo) = true) (hd : decode cc pc = .ok (.invokestatic idx, 3)) (kk : ∀ (v : Option Value) (u : xf_S), rq v u → xf_V X np L (v.toList ++ rest) u) : xf_V X pc L (v5 :: v4 :: v3 :: v2 :: v1 :: rest) σ := by
  exact xf_callSN hX np hp [v1, v2, v3, v4, v5] rest hM hy hl rfl rfl (Nat.le_of_ble_eq_true hw) (xf_ble hR) hd kk
theorem xf_V5i (hX : xf_ok X l own cc nL fr lo wf D tys) (np : Nat) (hp : pc + 3 = np) {v1 v2 v3 v4 v5 : Value} (hM : xf_F l y cc' nL' ret' fr' lo' wf D tys [.ref b, v1, v2, v3, v4, v5] σ (some (.int r)) σ') (hy : xf_vir y cc' nL' ret' 5) (hl : Cond.methodLink own idx y ∈ xf_GW) (hrc : xf_rcv wf σ b y.cls) (hw : Nat.ble ((rest.map fun v => v.category).sum) 8 = true) (hR : (Nat.ble (fr' + 1) fr && Nat.ble (8 + (nL' + 11) + lo') lo) = true) (hd : decode cc pc = .ok (.invokevirtual idx, 3)) (kk : xf_V X np L (.int r :: rest) σ') : xf_V X pc L (v5 :: v4 :: v3 :: v2 :: v1 :: .ref b :: rest) σ := by
  obtain ⟨q0, ci, fs, r0, e1, e2, e3⟩ := hrc
  exact xf_callV hX np hp [v1, v2, v3, v4, v5] rest hM hy hl q0 ci e1 e2 e3 rfl rfl (Nat.le_of_ble_eq_true hw) (xf_ble hR) hd (fun v u h => by obtain ⟨rfl, rfl⟩ := h; exact kk)
theorem xf_V5v (hX : xf_ok X l own cc nL fr lo wf D tys) (np : Nat) (hp : pc + 3 = np) {v1 v2 v3 v4 v5 : Value} (hM : xf_F l y cc' nL' ret' fr' lo' wf D tys [.ref b, v1, v2, v3, v4, v5] σ none σ') (hy : xf_vir y cc' nL' ret' 5) (hl : Cond.methodLink own idx y ∈ xf_GW) (hrc : xf_rcv wf σ b y.cls) (hw : Nat.ble ((rest.map fun v => v.category).sum) 8 = true) (hR : (Nat.ble (fr' + 1) fr && Nat.ble (8 + (nL' + 11) + lo') lo) = true) (hd : decode cc pc = .ok (.invokevirtual idx, 3)) (kk : xf_V X np L rest σ') : xf_V X pc L (v5 :: v4 :: v3 :: v2 :: v1 :: .ref b :: rest) σ := by
  obtain ⟨q0, ci, fs, r0, e1, e2, e3⟩ := hrc
  exact xf_callV hX np hp [v1, v2, v3, v4, v5] rest hM hy hl q0 ci e1 e2 e3 rfl rfl (Nat.le_of_ble_eq_true hw) (xf_ble hR) hd (fun v u h => by obtain ⟨rfl, rfl⟩ := h; exact kk)
theorem xf_V5r (hX : xf_ok X l own cc nL fr lo wf D tys) (np : Nat) (hp : pc + 3 = np) {v1 v2 v3 v4 v5 : Value} (hM : xf_M l y cc' nL' ret' fr' lo' wf D tys [.ref b, v1, v2, v3, v4, v5] σ rq) (hy : xf_vir y cc' nL' ret' 5) (hl : Cond.methodLink own idx y ∈ xf_GW) (hrc : xf_rcv wf σ b y.cls) (hw : Nat.ble ((rest.map fun v => v.category).sum) 8 = true) (hR : (Nat.ble (fr' + 1) fr && Nat.ble (8 + (nL' + 11) + lo') lo) = true) (hd : decode cc pc = .ok (.invokevirtual idx, 3)) (kk : ∀ (v : Option Value) (u : xf_S), rq v u → xf_V X np L (v.toList ++ rest) u) : xf_V X pc L (v5 :: v4 :: v3 :: v2 :: v1 :: .ref b :: rest) σ := by
  obtain ⟨q0, ci, fs, r0, e1, e2, e3⟩ := hrc
  exact xf_callV hX np hp [v1, v2, v3, v4, v5] rest hM hy hl q0 ci e1 e2 e3 rfl rfl (Nat.le_of_ble_eq_true hw) (xf_ble hR) hd kk
theorem xf_U5i (hX : xf_ok X l own cc nL fr lo wf D tys) (np : Nat) (hp : pc + 3 = np) {v1 v2 v3 v4 v5 : Value} (hM : xf_F l y cc' nL' ret' fr' lo' wf D tys [.ref b, v1, v2, v3, v4, v5] σ (some (.int r)) σ') (hy : xf_vir y cc' nL' ret' 5) {host : String} (hl : Cond.methodLinkNest own idx y host ∈ xf_NL) (hrc : xf_rcv wf σ b y.cls) (hw : Nat.ble ((rest.map fun v => v.category).sum) 8 = true) (hR : (Nat.ble (fr' + 1) fr && Nat.ble (8 + (nL' + 11) + lo') lo) = true) (hd : decode cc pc = .ok (.invokevirtual idx, 3)) (kk : xf_V X np L (.int r :: rest) σ') : xf_V X pc L (v5 :: v4 :: v3 :: v2 :: v1 :: .ref b :: rest) σ := by
  obtain ⟨q0, ci, fs, r0, e1, e2, e3⟩ := hrc
  exact xf_callVN hX np hp [v1, v2, v3, v4, v5] rest hM hy hl q0 ci e1 e2 e3 rfl rfl (Nat.le_of_ble_eq_true hw) (xf_ble hR) hd (fun v u h => by obtain ⟨rfl, rfl⟩ := h; exact kk)
theorem xf_U5v (hX : xf_ok X l own cc nL fr lo wf D tys) (np : Nat) (hp : pc + 3 = np) {v1 v2 v3 v4 v5 : Value} (hM : xf_F l y cc' nL' ret' fr' lo' wf D tys [.ref b, v1, v2, v3, v4, v5] σ none σ') (hy : xf_vir y cc' nL' ret' 5) {host : String} (hl : Cond.methodLinkNest own idx y host ∈ xf_NL) (hrc : xf_rcv wf σ b y.cls) (hw : Nat.ble ((rest.map fun v => v.category).sum) 8 = true) (hR : (Nat.ble (fr' + 1) fr && Nat.ble (8 + (nL' + 11) + lo') lo) = true) (hd : decode cc pc = .ok (.invokevirtual idx, 3)) (kk : xf_V X np L rest σ') : xf_V X pc L (v5 :: v4 :: v3 :: v2 :: v1 :: .ref b :: rest) σ := by
  obtain ⟨q0, ci, fs, r0, e1, e2, e3⟩ := hrc
  exact xf_callVN hX np hp [v1, v2, v3, v4, v5] rest hM hy hl q0 ci e1 e2 e3 rfl rfl (Nat.le_of_ble_eq_true hw) (xf_ble hR) hd (fun v u h => by obtain ⟨rfl, rfl⟩ := h; exact kk)
theorem xf_U5r (hX : xf_ok X l own cc nL fr lo wf D tys) (np : Nat) (hp : pc + 3 = np) {v1 v2 v3 v4 v5 : Value} (hM : xf_M l y cc' nL' ret' fr' lo' wf D tys [.ref b, v1, v2, v3, v4, v5] σ rq) (hy : xf_vir y cc' nL' ret' 5) {host : String} (hl : Cond.methodLinkNest own idx y host ∈ xf_NL) (hrc : xf_rcv wf σ b y.cls) (hw : Nat.ble ((rest.map fun v => v.category).sum) 8 = true) (hR : (Nat.ble (fr' + 1) fr && Nat.ble (8 + (nL' + 11) + lo') lo) = true) (hd : decode cc pc = .ok (.invokevirtual idx, 3)) (kk : ∀ (v : Option Value) (u : xf_S), rq v u → xf_V X np L (v.toList ++ rest) u) : xf_V X pc L (v5 :: v4 :: v3 :: v2 :: v1 :: .ref b :: rest) σ := by
  obtain ⟨q0, ci, fs, r0, e1, e2, e3⟩ := hrc
  exact xf_callVN hX np hp [v1, v2, v3, v4, v5] rest hM hy hl q0 ci e1 e2 e3 rfl rfl (Nat.le_of_ble_eq_true hw) (xf_ble hR) hd kk
theorem xf_S6i (hX : xf_ok X l own cc nL fr lo wf D tys) (np : Nat) (hp : pc + 3 = np) {v1 v2 v3 v4 v5 v6 : Value} (hM : xf_F l y cc' nL' ret' fr' lo' wf D tys [v1, v2, v3, v4, v5, v6] σ (some (.int r)) σ') (hy : xf_sta y cc' nL' ret' 6) (hl : Cond.methodLink own idx y ∈ xf_GW) (hw : Nat.ble ((rest.map fun v => v.category).sum) 8 = true) (hR : (Nat.ble (fr' + 1) fr && Nat.ble (8 + (nL' + 11) + lo') lo) = true) (hd : decode cc pc = .ok (.invokestatic idx, 3)) (kk : xf_V X np L (.int r :: rest) σ') : xf_V X pc L (v6 :: v5 :: v4 :: v3 :: v2 :: v1 :: rest) σ := by
  exact xf_callS hX np hp [v1, v2, v3, v4, v5, v6] rest hM hy hl rfl rfl (Nat.le_of_ble_eq_true hw) (xf_ble hR) hd (fun v u h => by obtain ⟨rfl, rfl⟩ := h; exact kk)
theorem xf_S6v (hX : xf_ok X l own cc nL fr lo wf D tys) (np : Nat) (hp : pc + 3 = np) {v1 v2 v3 v4 v5 v6 : Value} (hM : xf_F l y cc' nL' ret' fr' lo' wf D tys [v1, v2, v3, v4, v5, v6] σ none σ') (hy : xf_sta y cc' nL' ret' 6) (hl : Cond.methodLink own idx y ∈ xf_GW) (hw : Nat.ble ((rest.map fun v => v.category).sum) 8 = true) (hR : (Nat.ble (fr' + 1) fr && Nat.ble (8 + (nL' + 11) + lo') lo) = true) (hd : decode cc pc = .ok (.invokestatic idx, 3)) (kk : xf_V X np L rest σ') : xf_V X pc L (v6 :: v5 :: v4 :: v3 :: v2 :: v1 :: rest) σ := by
  exact xf_callS hX np hp [v1, v2, v3, v4, v5, v6] rest hM hy hl rfl rfl (Nat.le_of_ble_eq_true hw) (xf_ble hR) hd (fun v u h => by obtain ⟨rfl, rfl⟩ := h; exact kk)
theorem xf_S6r (hX : xf_ok X l own cc nL fr lo wf D tys) (np : Nat) (hp : pc + 3 = np) {v1 v2 v3 v4 v5 v6 : Value} (hM : xf_M l y cc' nL' ret' fr' lo' wf D tys [v1, v2, v3, v4, v5, v6] σ rq) (hy : xf_sta y cc' nL' ret' 6) (hl : Cond.methodLink own idx y ∈ xf_GW) (hw : Nat.ble ((rest.map fun v => v.category).sum) 8 = true) (hR : (Nat.ble (fr' + 1) fr && Nat.ble (8 + (nL' + 11) + lo') lo) = true) (hd : decode cc pc = .ok (.invokestatic idx, 3)) (kk : ∀ (v : Option Value) (u : xf_S), rq v u → xf_V X np L (v.toList ++ rest) u) : xf_V X pc L (v6 :: v5 :: v4 :: v3 :: v2 :: v1 :: rest) σ := by
  exact xf_callS hX np hp [v1, v2, v3, v4, v5, v6] rest hM hy hl rfl rfl (Nat.le_of_ble_eq_true hw) (xf_ble hR) hd kk
theorem xf_T6i (hX : xf_ok X l own cc nL fr lo wf D tys) (np : Nat) (hp : pc + 3 = np) {v1 v2 v3 v4 v5 v6 : Value} (hM : xf_F l y cc' nL' ret' fr' lo' wf D tys [v1, v2, v3, v4, v5, v6] σ (some (.int r)) σ') (hy : xf_sta y cc' nL' ret' 6) {host : String} (hl : Cond.methodLinkNest own idx y host ∈ xf_NL) (hw : Nat.ble ((rest.map fun v => v.category).sum) 8 = true) (hR : (Nat.ble (fr' + 1) fr && Nat.ble (8 + (nL' + 11) + lo') lo) = true) (hd : decode cc pc = .ok (.invokestatic idx, 3)) (kk : xf_V X np L (.int r :: rest) σ') : xf_V X pc L (v6 :: v5 :: v4 :: v3 :: v2 :: v1 :: rest) σ := by
  exact xf_callSN hX np hp [v1, v2, v3, v4, v5, v6] rest hM hy hl rfl rfl (Nat.le_of_ble_eq_true hw) (xf_ble hR) hd (fun v u h => by obtain ⟨rfl, rfl⟩ := h; exact kk)
theorem xf_T6v (hX : xf_ok X l own cc nL fr lo wf D tys) (np : Nat) (hp : pc + 3 = np) {v1 v2 v3 v4 v5 v6 : Value} (hM : xf_F l y cc' nL' ret' fr' lo' wf D tys [v1, v2, v3, v4, v5, v6] σ none σ') (hy : xf_sta y cc' nL' ret' 6) {host : String} (hl : Cond.methodLinkNest own idx y host ∈ xf_NL) (hw : Nat.ble ((rest.map fun v => v.category).sum) 8 = true) (hR : (Nat.ble (fr' + 1) fr && Nat.ble (8 + (nL' + 11) + lo') lo) = true) (hd : decode cc pc = .ok (.invokestatic idx, 3)) (kk : xf_V X np L rest σ') : xf_V X pc L (v6 :: v5 :: v4 :: v3 :: v2 :: v1 :: rest) σ := by
  exact xf_callSN hX np hp [v1, v2, v3, v4, v5, v6] rest hM hy hl rfl rfl (Nat.le_of_ble_eq_true hw) (xf_ble hR) hd (fun v u h => by obtain ⟨rfl, rfl⟩ := h; exact kk)
theorem xf_T6r (hX : xf_ok X l own cc nL fr lo wf D tys) (np : Nat) (hp : pc + 3 = np) {v1 v2 v3 v4 v5 v6 : Value} (hM : xf_M l y cc' nL' ret' fr' lo' wf D tys [v1, v2, v3, v4, v5, v6] σ rq) (hy : xf_sta y cc' nL' ret' 6) {host : String} (hl : Cond.methodLinkNest own idx y host ∈ xf_NL) (hw : Nat.ble ((rest.map fun v => v.category).sum) 8 = true) (hR : (Nat.ble (fr' + 1) fr && Nat.ble (8 + (nL' + 11) + lo') lo) = true) (hd : decode cc pc = .ok (.invokestatic idx, 3)) (kk : ∀ (v : Option Value) (u : xf_S), rq v u → xf_V X np L (v.toList ++ rest) u) : xf_V X pc L (v6 :: v5 :: v4 :: v3 :: v2 :: v1 :: rest) σ := by
  exact xf_callSN hX np hp [v1, v2, v3, v4, v5, v6] rest hM hy hl rfl rfl (Nat.le_of_ble_eq_true hw) (xf_ble hR) hd kk
end XFW
end
